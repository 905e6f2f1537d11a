def rmX8_in : Room := { frames := 0, cells := 0, slots := 0, locals := 0 }
set_option maxRecDepth 100000 in
set_option maxHeartbeats 4000000 in
theorem kX8_in (l : Launch) (dC : Nat → ClassId) (dI : Nat → Nat → Nat) (cI cJ cZ : ClassId)   (a0 a1 a2 : Int) (h0 : zR a0) (h1 : zR a1) (h2 : zR a2) : zPi l yX8_in wsX8_in rmX8_in (dC, dI) (zT cI cJ cZ) (wNO cI cJ cZ ) [.int (iI a0), .int (iI a1), .int (iI a2)] (b2i (a1 ≤ a0 ∧ a0 ≤ a2)) := by
  refine zent_pi (cc := cX8_in) (maxL := 3) (ret := (some .boolean)) (by decide +kernel) rfl (Nat.le_of_ble_eq_true rfl) ?_
  intro p e s m below meth c ls hE hP hK hl
  obtain ⟨hx, hb, hr, hml, hown, hts, hlocks, hmn⟩ := hE
  have hl : lv_has ls 3 [(0, .int (iI a0)), (1, .int (iI a1)), (2, .int (iI a2))] := hl
  refine z_gen (fun Q hQ => ?_)
  refine lv_iload_n hx hb dX8_in_0 rfl (lv_at hl 0 rfl) ?_
  refine lv_iload_n hx hb dX8_in_1 rfl (lv_at hl 1 rfl) ?_
  refine zi_clt (tgt := 14) hx hb (by omega) (by omega) dX8_in_2 (by decide) (fun c_1 => ?_) (fun c_1 => ?_)
  · skip
    refine lv_iconst (v := iI 0) hx hb dX8_in_14 rfl ?_
    subst hQ
    exact zret_pz hx hb hr hlocks dX8_in_15 (by first | decide | omega) (by first | exact (b2i_t ⟨by omega, by omega⟩).symm | exact (b2i_f (by omega)).symm)
  · skip
    refine lv_iload_n hx hb dX8_in_5 rfl (lv_at hl 0 rfl) ?_
    refine lv_iload_n hx hb dX8_in_6 rfl (lv_at hl 2 rfl) ?_
    refine zi_cgt (tgt := 14) hx hb (by omega) (by omega) dX8_in_7 (by decide) (fun c_2 => ?_) (fun c_2 => ?_)
    · skip
      refine lv_iconst (v := iI 0) hx hb dX8_in_14 rfl ?_
      subst hQ
      exact zret_pz hx hb hr hlocks dX8_in_15 (by first | decide | omega) (by first | exact (b2i_t ⟨by omega, by omega⟩).symm | exact (b2i_f (by omega)).symm)
    · skip
      refine lv_iconst (v := iI 1) hx hb dX8_in_10 rfl ?_
      refine lv_goto (tgt := 15) hx hb dX8_in_11 (by decide) ?_
      subst hQ
      exact zret_pz hx hb hr hlocks dX8_in_15 (by first | decide | omega) (by first | exact (b2i_t ⟨by omega, by omega⟩).symm | exact (b2i_f (by omega)).symm)
def rmX8_thrown : Room := { frames := 0, cells := 0, slots := 0, locals := 0 }
set_option maxRecDepth 100000 in
set_option maxHeartbeats 4000000 in
theorem kX8_thrown (l : Launch) (dC : Nat → ClassId) (dI : Nat → Nat → Nat) (cI cJ cZ : ClassId) (q : Nat → Nat)  (pw : Int → Int) (co : Int → Int) (la : Int → Int) (vo : Int → Int) (nC : Int) (par : Int → Int) (div : Int → Int) (dee : Int → Int) (use : Int → Int) (mrun : Int → Int) (nT : Int) (due : Int → Int) (lat : Int → Int) (wk : Int → Int) (nE : Int) (tk : Int → Int) (ld : Int → Int) (rule : Int) (now : Int) (st : Int) (asl : Int) (idn : Int) (idl : Int → Int) (sp : Int) (pe : Int) (tin : Int → Int) (slp : Int) (late : Int) (srv : Int) (hv : Int → Int) (av : Int) (bd : Int) (sh : Int) (mL : Int → Int) (mB : Int → Int) (thr : Int)  : zPi l yX8_thrown wsX8_thrown rmX8_thrown (dC, dI) (zT cI cJ cZ) (wM cI cJ cZ q pw co la vo nC par div dee use mrun nT due lat wk nE tk ld rule now st asl idn idl sp pe tin slp late srv hv av bd sh mL mB thr) [.ref (q 0)] (thr) := by
  refine zent_pi (cc := cX8_thrown) (maxL := 1) (ret := (some .int)) (by decide +kernel) rfl (Nat.le_of_ble_eq_true rfl) ?_
  intro p e s m below meth c ls hE hP hK hl
  obtain ⟨hx, hb, hr, hml, hown, hts, hlocks, hmn⟩ := hE
  have hinX8 : ∀ w ∈ u_ws RX8 TX8 36, w ∈ wsX8_thrown := by decide +kernel
  have hl : lv_has ls 1 [(0, .ref (q 0))] := hl
  refine z_gen (fun Q hQ => ?_)
  refine lv_aload_n hx hb dX8_thrown_0 rfl (lv_at hl 0 rfl) ?_
  refine va_get (D := (dC, dI)) (ci := 8) (v := .int (iI thr)) (C := RX8) (T := TX8) (N := 36) hx hb hts hinX8 hown hK.1 hP 0 rfl rfl 35 (by decide) (hts _ (List.mem_of_getElem? (i := 1) rfl)) (fun _ h9 => h9) rfl dX8_thrown_1 ?_
  subst hQ
  exact zret_pi hx hb hr hlocks dX8_thrown_4 (by rfl)
def rmX8_fails : Room := { frames := 0, cells := 0, slots := 0, locals := 0 }
set_option maxRecDepth 100000 in
set_option maxHeartbeats 4000000 in
theorem kX8_fails (l : Launch) (dC : Nat → ClassId) (dI : Nat → Nat → Nat) (cI cJ cZ : ClassId) (q : Nat → Nat)  (pw : Int → Int) (co : Int → Int) (la : Int → Int) (vo : Int → Int) (nC : Int) (par : Int → Int) (div : Int → Int) (dee : Int → Int) (use : Int → Int) (mrun : Int → Int) (nT : Int) (due : Int → Int) (lat : Int → Int) (wk : Int → Int) (nE : Int) (tk : Int → Int) (ld : Int → Int) (rule : Int) (now : Int) (st : Int) (asl : Int) (idn : Int) (idl : Int → Int) (sp : Int) (pe : Int) (tin : Int → Int) (slp : Int) (late : Int) (srv : Int) (hv : Int → Int) (av : Int) (bd : Int) (sh : Int) (mL : Int → Int) (mB : Int → Int) (thr : Int) (w : Int)  : zMi l yX8_fails wsX8_fails rmX8_fails (dC, dI) (zT cI cJ cZ) (wM cI cJ cZ q pw co la vo nC par div dee use mrun nT due lat wk nE tk ld rule now st asl idn idl sp pe tin slp late srv hv av bd sh mL mB thr) [.ref (q 0), .int (iI w)] (fun (r9 : Int) (_ : Unit) => r9 = 0) (fun _ : Unit => wM cI cJ cZ q pw co la vo nC par div dee use mrun nT due lat wk nE tk ld rule now st asl idn idl sp pe tin slp late srv hv av bd sh mL mB w) 0 0 := by
  refine zent_i (cc := cX8_fails) (maxL := 2) (ret := (some .int)) (by decide +kernel) rfl (Nat.le_of_ble_eq_true rfl) ?_
  intro p e s m below meth c A ls hE hP hK hA hD hS hl
  obtain ⟨hx, hb, hr, hml, hown, hts, hlocks, hmn⟩ := hE
  have hinX8 : ∀ w ∈ u_ws RX8 TX8 36, w ∈ wsX8_fails := by decide +kernel
  have hl : lv_has ls 2 [(0, .ref (q 0)), (1, .int (iI w))] := hl
  refine z_gen (fun Q hQ => ?_)
  refine lv_aload_n hx hb dX8_fails_0 rfl (lv_at hl 0 rfl) ?_
  refine lv_iload_n hx hb dX8_fails_1 rfl (lv_at hl 1 rfl) ?_
  refine va_put (D := (dC, dI)) (ci := 8) (v := .int (iI w)) (ty := .int) (C := RX8) (T := TX8) (N := 36) hx hb hts hinX8 tyX8 tyX8_ok nmX8 hown hK.1 hP hD hS 0 rfl rfl 35 (by decide) (hts _ (List.mem_of_getElem? (i := 1) rfl)) (fun _ h9 => h9) rfl (by decide +kernel) rfl rfl (Nat.le_of_ble_eq_true rfl) dX8_fails_2 (fun H locs hP hD hS => ?_)
  have hP : va_P (dC, dI) vwCl (wM cI cJ cZ q pw co la vo nC par div dee use mrun nT due lat wk nE tk ld rule now st asl idn idl sp pe tin slp late srv hv av bd sh mL mB w) H := hP
  have hD : va_D A (wM cI cJ cZ q pw co la vo nC par div dee use mrun nT due lat wk nE tk ld rule now st asl idn idl sp pe tin slp late srv hv av bd sh mL mB w) := hD
  refine lv_iconst (v := iI 0) hx hb dX8_fails_5 rfl ?_
  subst hQ
  exact zret_i (W1 := fun _ : Unit => wM cI cJ cZ q pw co la vo nC par div dee use mrun nT due lat wk nE tk ld rule now st asl idn idl sp pe tin slp late srv hv av bd sh mL mB w) () hx hb hr hP hD hS hlocks dX8_fails_6 (by rfl)
def rmX8_asks : Room := { frames := 0, cells := 0, slots := 0, locals := 0 }
set_option maxRecDepth 100000 in
set_option maxHeartbeats 4000000 in
theorem kX8_asks (l : Launch) (dC : Nat → ClassId) (dI : Nat → Nat → Nat) (cI cJ cZ : ClassId) (q : Nat → Nat)  (pw : Int → Int) (co : Int → Int) (la : Int → Int) (vo : Int → Int) (nC : Int) (par : Int → Int) (div : Int → Int) (dee : Int → Int) (use : Int → Int) (mrun : Int → Int) (nT : Int) (due : Int → Int) (lat : Int → Int) (wk : Int → Int) (nE : Int) (tk : Int → Int) (ld : Int → Int) (rule : Int) (now : Int) (st : Int) (asl : Int) (idn : Int) (idl : Int → Int) (sp : Int) (pe : Int) (tin : Int → Int) (slp : Int) (late : Int) (srv : Int) (hv : Int → Int) (av : Int) (bd : Int) (sh : Int) (mL : Int → Int) (mB : Int → Int) (thr : Int) (a : Int) (ha : a = 0 ∨ a = 1) : zMi l yX8_asks wsX8_asks rmX8_asks (dC, dI) (zT cI cJ cZ) (wM cI cJ cZ q pw co la vo nC par div dee use mrun nT due lat wk nE tk ld rule now st asl idn idl sp pe tin slp late srv hv av bd sh mL mB thr) [.ref (q 0), .int (iI a)] (fun (r9 : Int) (_ : Unit) => r9 = a) (fun _ : Unit => wM cI cJ cZ q pw co la vo nC par div dee use mrun nT due lat wk nE tk ld rule now st asl idn idl sp pe tin slp late srv hv av bd sh mL mB (1 - a)) 0 0 := by
  refine zent_i (cc := cX8_asks) (maxL := 2) (ret := (some .boolean)) (by decide +kernel) rfl (Nat.le_of_ble_eq_true rfl) ?_
  intro p e s m below meth c A ls hE hP hK hA hD hS hl
  obtain ⟨hx, hb, hr, hml, hown, hts, hlocks, hmn⟩ := hE
  have hinX8 : ∀ w ∈ u_ws RX8 TX8 36, w ∈ wsX8_asks := by decide +kernel
  have hl : lv_has ls 2 [(0, .ref (q 0)), (1, .int (iI a))] := hl
  refine z_gen (fun Q hQ => ?_)
  refine lv_aload_n hx hb dX8_asks_0 rfl (lv_at hl 0 rfl) ?_
  refine lv_iload_n hx hb dX8_asks_1 rfl (lv_at hl 1 rfl) ?_
  refine zi_feq (tgt := 9) hx hb (by omega) dX8_asks_2 (by decide) (fun c_1 => ?_) (fun c_1 => ?_)
  · skip
    refine lv_iconst (v := iI 1) hx hb dX8_asks_9 rfl ?_
    refine va_put (D := (dC, dI)) (ci := 8) (v := .int (iI 1)) (ty := .int) (C := RX8) (T := TX8) (N := 36) hx hb hts hinX8 tyX8 tyX8_ok nmX8 hown hK.1 hP hD hS 0 rfl rfl 35 (by decide) (hts _ (List.mem_of_getElem? (i := 1) rfl)) (fun _ h9 => h9) rfl (by decide +kernel) rfl rfl (Nat.le_of_ble_eq_true rfl) dX8_asks_10 (fun H locs hP hD hS => ?_)
    have hP : va_P (dC, dI) vwCl (wM cI cJ cZ q pw co la vo nC par div dee use mrun nT due lat wk nE tk ld rule now st asl idn idl sp pe tin slp late srv hv av bd sh mL mB 1) H := hP
    have hD : va_D A (wM cI cJ cZ q pw co la vo nC par div dee use mrun nT due lat wk nE tk ld rule now st asl idn idl sp pe tin slp late srv hv av bd sh mL mB 1) := hD
    refine lv_iload_n hx hb dX8_asks_13 rfl (lv_at hl 1 rfl) ?_
    subst hQ
    have w_2 : (1 - a) = 1 := by omega
    have hP : va_P (dC, dI) vwCl (wM cI cJ cZ q pw co la vo nC par div dee use mrun nT due lat wk nE tk ld rule now st asl idn idl sp pe tin slp late srv hv av bd sh mL mB (1 - a)) H := by rw [w_2]; exact hP
    have hD : va_D A (wM cI cJ cZ q pw co la vo nC par div dee use mrun nT due lat wk nE tk ld rule now st asl idn idl sp pe tin slp late srv hv av bd sh mL mB (1 - a)) := by rw [w_2]; exact hD
    exact zret_z (W1 := fun _ : Unit => wM cI cJ cZ q pw co la vo nC par div dee use mrun nT due lat wk nE tk ld rule now st asl idn idl sp pe tin slp late srv hv av bd sh mL mB (1 - a)) () hx hb hr hP hD hS hlocks dX8_asks_14 (by first | decide | omega) (by rfl)
  · skip
    refine lv_iconst (v := iI 0) hx hb dX8_asks_5 rfl ?_
    refine lv_goto (tgt := 10) hx hb dX8_asks_6 (by decide) ?_
    refine va_put (D := (dC, dI)) (ci := 8) (v := .int (iI 0)) (ty := .int) (C := RX8) (T := TX8) (N := 36) hx hb hts hinX8 tyX8 tyX8_ok nmX8 hown hK.1 hP hD hS 0 rfl rfl 35 (by decide) (hts _ (List.mem_of_getElem? (i := 1) rfl)) (fun _ h9 => h9) rfl (by decide +kernel) rfl rfl (Nat.le_of_ble_eq_true rfl) dX8_asks_10 (fun H locs hP hD hS => ?_)
    have hP : va_P (dC, dI) vwCl (wM cI cJ cZ q pw co la vo nC par div dee use mrun nT due lat wk nE tk ld rule now st asl idn idl sp pe tin slp late srv hv av bd sh mL mB 0) H := hP
    have hD : va_D A (wM cI cJ cZ q pw co la vo nC par div dee use mrun nT due lat wk nE tk ld rule now st asl idn idl sp pe tin slp late srv hv av bd sh mL mB 0) := hD
    refine lv_iload_n hx hb dX8_asks_13 rfl (lv_at hl 1 rfl) ?_
    subst hQ
    have w_3 : (1 - a) = 0 := by omega
    have hP : va_P (dC, dI) vwCl (wM cI cJ cZ q pw co la vo nC par div dee use mrun nT due lat wk nE tk ld rule now st asl idn idl sp pe tin slp late srv hv av bd sh mL mB (1 - a)) H := by rw [w_3]; exact hP
    have hD : va_D A (wM cI cJ cZ q pw co la vo nC par div dee use mrun nT due lat wk nE tk ld rule now st asl idn idl sp pe tin slp late srv hv av bd sh mL mB (1 - a)) := by rw [w_3]; exact hD
    exact zret_z (W1 := fun _ : Unit => wM cI cJ cZ q pw co la vo nC par div dee use mrun nT due lat wk nE tk ld rule now st asl idn idl sp pe tin slp late srv hv av bd sh mL mB (1 - a)) () hx hb hr hP hD hS hlocks dX8_asks_14 (by first | decide | omega) (by rfl)
def rmX8_spends : Room := { frames := 0, cells := 0, slots := 0, locals := 0 }
set_option maxRecDepth 100000 in
set_option maxHeartbeats 4000000 in
theorem kX8_spends (l : Launch) (dC : Nat → ClassId) (dI : Nat → Nat → Nat) (cI cJ cZ : ClassId) (q : Nat → Nat)  (pw : Int → Int) (co : Int → Int) (la : Int → Int) (vo : Int → Int) (nC : Int) (par : Int → Int) (div : Int → Int) (dee : Int → Int) (use : Int → Int) (mrun : Int → Int) (nT : Int) (due : Int → Int) (lat : Int → Int) (wk : Int → Int) (nE : Int) (tk : Int → Int) (ld : Int → Int) (rule : Int) (now : Int) (st : Int) (asl : Int) (idn : Int) (idl : Int → Int) (sp : Int) (pe : Int) (tin : Int → Int) (slp : Int) (late : Int) (srv : Int) (hv : Int → Int) (av : Int) (bd : Int) (sh : Int) (mL : Int → Int) (mB : Int → Int) (thr : Int) (en : Int)  : zMv l yX8_spends wsX8_spends rmX8_spends (dC, dI) (zT cI cJ cZ) (wM cI cJ cZ q pw co la vo nC par div dee use mrun nT due lat wk nE tk ld rule now st asl idn idl sp pe tin slp late srv hv av bd sh mL mB thr) [.ref (q 0), .long (lI en)] (fun (_ : Unit) => True) (fun _ : Unit => wM cI cJ cZ q pw co la vo nC par div dee use mrun nT due lat wk nE tk ld rule now st asl idn idl (sp + en) (pe + en) tin slp late srv hv av bd sh mL mB thr) 0 0 := by
  refine zent_v (cc := cX8_spends) (maxL := 3) (ret := none) (by decide +kernel) rfl (Nat.le_of_ble_eq_true rfl) ?_
  intro p e s m below meth c A ls hE hP hK hA hD hS hl
  obtain ⟨hx, hb, hr, hml, hown, hts, hlocks, hmn⟩ := hE
  have hinX8 : ∀ w ∈ u_ws RX8 TX8 36, w ∈ wsX8_spends := by decide +kernel
  have hl : lv_has ls 3 [(0, .ref (q 0)), (1, .long (lI en))] := hl
  refine z_gen (fun Q hQ => ?_)
  refine lv_aload_n hx hb dX8_spends_0 rfl (lv_at hl 0 rfl) ?_
  refine lv_dup hx hb dX8_spends_1 rfl ?_
  refine va_get (D := (dC, dI)) (ci := 8) (v := .long (lI sp)) (C := RX8) (T := TX8) (N := 36) hx hb hts hinX8 hown hK.1 hP 0 rfl rfl 23 (by decide) (hts _ (List.mem_of_getElem? (i := 1) rfl)) (fun _ h9 => h9) rfl dX8_spends_2 ?_
  refine lv_lload_n hx hb dX8_spends_5 rfl (lv_at hl 1 rfl) ?_
  refine zl_add hx hb dX8_spends_6 ?_
  refine va_put (D := (dC, dI)) (ci := 8) (v := .long (lI (sp + en))) (ty := .long) (C := RX8) (T := TX8) (N := 36) hx hb hts hinX8 tyX8 tyX8_ok nmX8 hown hK.1 hP hD hS 0 rfl rfl 23 (by decide) (hts _ (List.mem_of_getElem? (i := 1) rfl)) (fun _ h9 => h9) rfl (by decide +kernel) rfl rfl (Nat.le_of_ble_eq_true rfl) dX8_spends_7 (fun H locs hP hD hS => ?_)
  have hP : va_P (dC, dI) vwCl (wM cI cJ cZ q pw co la vo nC par div dee use mrun nT due lat wk nE tk ld rule now st asl idn idl (sp + en) pe tin slp late srv hv av bd sh mL mB thr) H := hP
  have hD : va_D A (wM cI cJ cZ q pw co la vo nC par div dee use mrun nT due lat wk nE tk ld rule now st asl idn idl (sp + en) pe tin slp late srv hv av bd sh mL mB thr) := hD
  refine lv_aload_n hx hb dX8_spends_10 rfl (lv_at hl 0 rfl) ?_
  refine lv_dup hx hb dX8_spends_11 rfl ?_
  refine va_get (D := (dC, dI)) (ci := 8) (v := .long (lI pe)) (C := RX8) (T := TX8) (N := 36) hx hb hts hinX8 hown hK.1 hP 0 rfl rfl 24 (by decide) (hts _ (List.mem_of_getElem? (i := 2) rfl)) (fun _ h9 => h9) rfl dX8_spends_12 ?_
  refine lv_lload_n hx hb dX8_spends_15 rfl (lv_at hl 1 rfl) ?_
  refine zl_add hx hb dX8_spends_16 ?_
  refine va_put (D := (dC, dI)) (ci := 8) (v := .long (lI (pe + en))) (ty := .long) (C := RX8) (T := TX8) (N := 36) hx hb hts hinX8 tyX8 tyX8_ok nmX8 hown hK.1 hP hD hS 0 rfl rfl 24 (by decide) (hts _ (List.mem_of_getElem? (i := 2) rfl)) (fun _ h9 => h9) rfl (by decide +kernel) rfl rfl (Nat.le_of_ble_eq_true rfl) dX8_spends_17 (fun H locs hP hD hS => ?_)
  have hP : va_P (dC, dI) vwCl (wM cI cJ cZ q pw co la vo nC par div dee use mrun nT due lat wk nE tk ld rule now st asl idn idl (sp + en) (pe + en) tin slp late srv hv av bd sh mL mB thr) H := hP
  have hD : va_D A (wM cI cJ cZ q pw co la vo nC par div dee use mrun nT due lat wk nE tk ld rule now st asl idn idl (sp + en) (pe + en) tin slp late srv hv av bd sh mL mB thr) := hD
  subst hQ
  exact zret_v (W1 := fun _ : Unit => wM cI cJ cZ q pw co la vo nC par div dee use mrun nT due lat wk nE tk ld rule now st asl idn idl (sp + en) (pe + en) tin slp late srv hv av bd sh mL mB thr) () hx hb hr hP hD hS hlocks dX8_spends_20 (by trivial)
def rmX8_wakes : Room := { frames := 0, cells := 0, slots := 0, locals := 0 }
set_option maxRecDepth 100000 in
set_option maxHeartbeats 4000000 in
theorem kX8_wakes (l : Launch) (dC : Nat → ClassId) (dI : Nat → Nat → Nat) (cI cJ cZ : ClassId) (q : Nat → Nat)  (pw : Int → Int) (co : Int → Int) (la : Int → Int) (vo : Int → Int) (nC : Int) (par : Int → Int) (div : Int → Int) (dee : Int → Int) (use : Int → Int) (mrun : Int → Int) (nT : Int) (due : Int → Int) (lat : Int → Int) (wk : Int → Int) (nE : Int) (tk : Int → Int) (ld : Int → Int) (rule : Int) (now : Int) (st : Int) (asl : Int) (idn : Int) (idl : Int → Int) (sp : Int) (pe : Int) (tin : Int → Int) (slp : Int) (late : Int) (srv : Int) (hv : Int → Int) (av : Int) (bd : Int) (sh : Int) (mL : Int → Int) (mB : Int → Int) (thr : Int) (hidn : 0 ≤ idn ∧ idn ≤ 2000000) : zMv l yX8_wakes wsX8_wakes rmX8_wakes (dC, dI) (zT cI cJ cZ) (wM cI cJ cZ q pw co la vo nC par div dee use mrun nT due lat wk nE tk ld rule now st asl idn idl sp pe tin slp late srv hv av bd sh mL mB thr) [.ref (q 0)] (fun (_ : Unit) => True) (fun _ : Unit => wM cI cJ cZ q pw co la vo nC par div dee use mrun nT due lat wk nE tk ld rule now 0 asl (idn + 1) (uZ idl (idn % 4) (now - asl)) sp pe tin slp late srv hv av bd sh mL mB thr) 0 0 := by
  refine zent_v (cc := cX8_wakes) (maxL := 1) (ret := none) (by decide +kernel) rfl (Nat.le_of_ble_eq_true rfl) ?_
  intro p e s m below meth c A ls hE hP hK hA hD hS hl
  obtain ⟨hx, hb, hr, hml, hown, hts, hlocks, hmn⟩ := hE
  have hinX8 : ∀ w ∈ u_ws RX8 TX8 36, w ∈ wsX8_wakes := by decide +kernel
  have hl : lv_has ls 1 [(0, .ref (q 0))] := hl
  refine z_gen (fun Q hQ => ?_)
  refine lv_aload_n hx hb dX8_wakes_0 rfl (lv_at hl 0 rfl) ?_
  refine va_get (D := (dC, dI)) (ci := 8) (v := .ref (q 15)) (C := RX8) (T := TX8) (N := 36) hx hb hts hinX8 hown hK.1 hP 0 rfl rfl 22 (by decide) (hts _ (List.mem_of_getElem? (i := 1) rfl)) (fun _ h9 => h9) rfl dX8_wakes_1 ?_
  refine lv_aload_n hx hb dX8_wakes_4 rfl (lv_at hl 0 rfl) ?_
  refine va_get (D := (dC, dI)) (ci := 8) (v := .int (iI idn)) (C := RX8) (T := TX8) (N := 36) hx hb hts hinX8 hown hK.1 hP 0 rfl rfl 21 (by decide) (hts _ (List.mem_of_getElem? (i := 2) rfl)) (fun _ h9 => h9) rfl dX8_wakes_5 ?_
  refine lv_iconst (v := iI 4) hx hb dX8_wakes_8 rfl ?_
  refine zi_rem hx hb (by omega) (by omega) dX8_wakes_9 ?_
  refine lv_aload_n hx hb dX8_wakes_10 rfl (lv_at hl 0 rfl) ?_
  refine va_get (D := (dC, dI)) (ci := 8) (v := .int (iI now)) (C := RX8) (T := TX8) (N := 36) hx hb hts hinX8 hown hK.1 hP 0 rfl rfl 18 (by decide) (hts _ (List.mem_of_getElem? (i := 3) rfl)) (fun _ h9 => h9) rfl dX8_wakes_11 ?_
  refine lv_aload_n hx hb dX8_wakes_14 rfl (lv_at hl 0 rfl) ?_
  refine va_get (D := (dC, dI)) (ci := 8) (v := .int (iI asl)) (C := RX8) (T := TX8) (N := 36) hx hb hts hinX8 hown hK.1 hP 0 rfl rfl 20 (by decide) (hts _ (List.mem_of_getElem? (i := 4) rfl)) (fun _ h9 => h9) rfl dX8_wakes_15 ?_
  refine zi_sub hx hb dX8_wakes_18 ?_
  refine za_st hx hb hK hP hD hS 15 0 rfl rfl (by omega) (by omega) dX8_wakes_19 (fun H locs hP hD hS => ?_)
  have hP : va_P (dC, dI) vwCl (wM cI cJ cZ q pw co la vo nC par div dee use mrun nT due lat wk nE tk ld rule now st asl idn (uZ idl (idn % 4) (now - asl)) sp pe tin slp late srv hv av bd sh mL mB thr) H := hP
  have hD : va_D A (wM cI cJ cZ q pw co la vo nC par div dee use mrun nT due lat wk nE tk ld rule now st asl idn (uZ idl (idn % 4) (now - asl)) sp pe tin slp late srv hv av bd sh mL mB thr) := hD
  refine lv_aload_n hx hb dX8_wakes_20 rfl (lv_at hl 0 rfl) ?_
  refine lv_dup hx hb dX8_wakes_21 rfl ?_
  refine va_get (D := (dC, dI)) (ci := 8) (v := .int (iI idn)) (C := RX8) (T := TX8) (N := 36) hx hb hts hinX8 hown hK.1 hP 0 rfl rfl 21 (by decide) (hts _ (List.mem_of_getElem? (i := 2) rfl)) (fun _ h9 => h9) rfl dX8_wakes_22 ?_
  refine lv_iconst (v := iI 1) hx hb dX8_wakes_25 rfl ?_
  refine zi_add hx hb dX8_wakes_26 ?_
  refine va_put (D := (dC, dI)) (ci := 8) (v := .int (iI (idn + 1))) (ty := .int) (C := RX8) (T := TX8) (N := 36) hx hb hts hinX8 tyX8 tyX8_ok nmX8 hown hK.1 hP hD hS 0 rfl rfl 21 (by decide) (hts _ (List.mem_of_getElem? (i := 2) rfl)) (fun _ h9 => h9) rfl (by decide +kernel) rfl rfl (Nat.le_of_ble_eq_true rfl) dX8_wakes_27 (fun H locs hP hD hS => ?_)
  have hP : va_P (dC, dI) vwCl (wM cI cJ cZ q pw co la vo nC par div dee use mrun nT due lat wk nE tk ld rule now st asl (idn + 1) (uZ idl (idn % 4) (now - asl)) sp pe tin slp late srv hv av bd sh mL mB thr) H := hP
  have hD : va_D A (wM cI cJ cZ q pw co la vo nC par div dee use mrun nT due lat wk nE tk ld rule now st asl (idn + 1) (uZ idl (idn % 4) (now - asl)) sp pe tin slp late srv hv av bd sh mL mB thr) := hD
  refine lv_aload_n hx hb dX8_wakes_30 rfl (lv_at hl 0 rfl) ?_
  refine lv_iconst (v := iI 0) hx hb dX8_wakes_31 rfl ?_
  refine va_put (D := (dC, dI)) (ci := 8) (v := .int (iI 0)) (ty := .int) (C := RX8) (T := TX8) (N := 36) hx hb hts hinX8 tyX8 tyX8_ok nmX8 hown hK.1 hP hD hS 0 rfl rfl 19 (by decide) (hts _ (List.mem_of_getElem? (i := 5) rfl)) (fun _ h9 => h9) rfl (by decide +kernel) rfl rfl (Nat.le_of_ble_eq_true rfl) dX8_wakes_32 (fun H locs hP hD hS => ?_)
  have hP : va_P (dC, dI) vwCl (wM cI cJ cZ q pw co la vo nC par div dee use mrun nT due lat wk nE tk ld rule now 0 asl (idn + 1) (uZ idl (idn % 4) (now - asl)) sp pe tin slp late srv hv av bd sh mL mB thr) H := hP
  have hD : va_D A (wM cI cJ cZ q pw co la vo nC par div dee use mrun nT due lat wk nE tk ld rule now 0 asl (idn + 1) (uZ idl (idn % 4) (now - asl)) sp pe tin slp late srv hv av bd sh mL mB thr) := hD
  subst hQ
  exact zret_v (W1 := fun _ : Unit => wM cI cJ cZ q pw co la vo nC par div dee use mrun nT due lat wk nE tk ld rule now 0 asl (idn + 1) (uZ idl (idn % 4) (now - asl)) sp pe tin slp late srv hv av bd sh mL mB thr) () hx hb hr hP hD hS hlocks dX8_wakes_35 (by trivial)
def rmX8_stirs : Room := { frames := 1, cells := 0, slots := 0, locals := 22 }
set_option maxRecDepth 100000 in
set_option maxHeartbeats 4000000 in
theorem kX8_stirs (l : Launch) (dC : Nat → ClassId) (dI : Nat → Nat → Nat) (cI cJ cZ : ClassId) (q : Nat → Nat)  (pw : Int → Int) (co : Int → Int) (la : Int → Int) (vo : Int → Int) (nC : Int) (par : Int → Int) (div : Int → Int) (dee : Int → Int) (use : Int → Int) (mrun : Int → Int) (nT : Int) (due : Int → Int) (lat : Int → Int) (wk : Int → Int) (nE : Int) (tk : Int → Int) (ld : Int → Int) (rule : Int) (now : Int) (st : Int) (asl : Int) (idn : Int) (idl : Int → Int) (sp : Int) (pe : Int) (tin : Int → Int) (slp : Int) (late : Int) (srv : Int) (hv : Int → Int) (av : Int) (bd : Int) (sh : Int) (mL : Int → Int) (mB : Int → Int) (thr : Int) (hst : 0 ≤ st ∧ st ≤ 3) (hpw : rgZ pw 4 1000) (hco : rgZ co 4 10000) (hla : rgZ la 4 100) (hidn : 0 ≤ idn ∧ idn ≤ 2000000) (hidl : rgZ idl 4 1000000) : zMv l yX8_stirs wsX8_stirs rmX8_stirs (dC, dI) (zT cI cJ cZ) (wM cI cJ cZ q pw co la vo nC par div dee use mrun nT due lat wk nE tk ld rule now st asl idn idl sp pe tin slp late srv hv av bd sh mL mB thr) [.ref (q 0)] (fun (u9 : Int × Int × Int × (Int → Int) × Int) => ((u9.1), (u9.2.1), (u9.2.2.1), (u9.2.2.2.1), (u9.2.2.2.2)) = scF pw la st asl now sp pe idl idn) (fun u9 : Int × Int × Int × (Int → Int) × Int => wM cI cJ cZ q pw co la vo nC par div dee use mrun nT due lat wk nE tk ld rule now (u9.1) asl (u9.2.2.2.2) (u9.2.2.2.1) (u9.2.1) (u9.2.2.1) tin slp late srv hv av bd sh mL mB thr) 0 0 := by
  refine zent_v (cc := cX8_stirs) (maxL := 1) (ret := none) (by decide +kernel) rfl (Nat.le_of_ble_eq_true rfl) ?_
  intro p e s m below meth c A ls hE hP hK hA hD hS hl
  obtain ⟨hx, hb, hr, hml, hown, hts, hlocks, hmn⟩ := hE
  have hinX8 : ∀ w ∈ u_ws RX8 TX8 36, w ∈ wsX8_stirs := by decide +kernel
  have hl : lv_has ls 1 [(0, .ref (q 0))] := hl
  refine z_gen (fun Q hQ => ?_)
  have hm9 := mul_r (hpw 0 (by omega) (by omega)) (hla st (by omega) (by omega))
  refine lv_aload_n hx hb dX8_stirs_0 rfl (lv_at hl 0 rfl) ?_
  refine va_get (D := (dC, dI)) (ci := 8) (v := .int (iI st)) (C := RX8) (T := TX8) (N := 36) hx hb hts hinX8 hown hK.1 hP 0 rfl rfl 19 (by decide) (hts _ (List.mem_of_getElem? (i := 1) rfl)) (fun _ h9 => h9) rfl dX8_stirs_1 ?_
  refine zi_fle (tgt := 32) hx hb (by omega) dX8_stirs_4 (by decide) (fun c_1 => ?_) (fun c_1 => ?_)
  · skip
    subst hQ
    exact zret_v (W1 := fun u9 : Int × Int × Int × (Int → Int) × Int => wM cI cJ cZ q pw co la vo nC par div dee use mrun nT due lat wk nE tk ld rule now (u9.1) asl (u9.2.2.2.2) (u9.2.2.2.1) (u9.2.1) (u9.2.2.1) tin slp late srv hv av bd sh mL mB thr) (st, sp, pe, idl, idn) hx hb hr hP hD hS hlocks dX8_stirs_32 (by first | (exact (if_pos (by omega)).symm) | (exact (if_neg (by omega)).symm))
  · skip
    refine lv_aload_n hx hb dX8_stirs_7 rfl (lv_at hl 0 rfl) ?_
    refine lv_aload_n hx hb dX8_stirs_8 rfl (lv_at hl 0 rfl) ?_
    refine va_get (D := (dC, dI)) (ci := 8) (v := .ref (q 1)) (C := RX8) (T := TX8) (N := 36) hx hb hts hinX8 hown hK.1 hP 0 rfl rfl 0 (by decide) (hts _ (List.mem_of_getElem? (i := 2) rfl)) (fun _ h9 => h9) rfl dX8_stirs_9 ?_
    refine lv_iconst (v := iI 0) hx hb dX8_stirs_12 rfl ?_
    refine za_ld hx hb hK hP 1 0 rfl rfl (by omega) (by omega) dX8_stirs_13 ?_
    refine lv_aload_n hx hb dX8_stirs_14 rfl (lv_at hl 0 rfl) ?_
    refine va_get (D := (dC, dI)) (ci := 8) (v := .ref (q 3)) (C := RX8) (T := TX8) (N := 36) hx hb hts hinX8 hown hK.1 hP 0 rfl rfl 2 (by decide) (hts _ (List.mem_of_getElem? (i := 3) rfl)) (fun _ h9 => h9) rfl dX8_stirs_15 ?_
    refine lv_aload_n hx hb dX8_stirs_18 rfl (lv_at hl 0 rfl) ?_
    refine va_get (D := (dC, dI)) (ci := 8) (v := .int (iI st)) (C := RX8) (T := TX8) (N := 36) hx hb hts hinX8 hown hK.1 hP 0 rfl rfl 19 (by decide) (hts _ (List.mem_of_getElem? (i := 1) rfl)) (fun _ h9 => h9) rfl dX8_stirs_19 ?_
    refine za_ld hx hb hK hP 3 0 rfl rfl (by omega) (by omega) dX8_stirs_22 ?_
    refine zi_mul hx hb dX8_stirs_23 ?_
    refine zi_l hx hb (by omega) dX8_stirs_24 ?_
    refine zc_v (va_runV (As := [.long (lI ((pw 0) * (la st)))]) (rest := []) ⟨hx, hb, hml, hown, hts⟩ (kX8_spends l dC dI cI cJ cZ q pw co la vo nC par div dee use mrun nT due lat wk nE tk ld rule now st asl idn idl sp pe tin slp late srv hv av bd sh mL mB thr ((pw 0) * (la st)) s.heap.size) (cwV 1 hts gX8_stirs_X8_spends rfl rfl rfl (by decide +kernel) ⟨Nat.le_of_ble_eq_true rfl, Nat.le_of_ble_eq_true rfl⟩) (zpV hK hP hD [0, 1, 2, 3, 4, 5, 6, 7, 8, 9, 10, 11, 12, 13, 14, 15, 16, 17, 18, 19] rfl rfl 0 rfl rfl) rfl rfl hl.1 rfl (lv_room (Nat.le_of_ble_eq_true rfl)) dX8_stirs_25 ⟨Nat.le_of_ble_eq_true rfl, Nat.le_of_ble_eq_true rfl⟩) hP hD hS hA [0, 1, 2, 3, 4, 5, 6, 7, 8, 9, 10, 11, 12, 13, 14, 15, 16, 17, 18, 19] [] rfl rfl rfl (by decide) (fun u_3 H locs r_2 hP hD hS => ?_)
    have hP : va_P (dC, dI) vwCl (wM cI cJ cZ q pw co la vo nC par div dee use mrun nT due lat wk nE tk ld rule now st asl idn idl (sp + ((pw 0) * (la st))) (pe + ((pw 0) * (la st))) tin slp late srv hv av bd sh mL mB thr) H := hP
    have hD : va_D A (wM cI cJ cZ q pw co la vo nC par div dee use mrun nT due lat wk nE tk ld rule now st asl idn idl (sp + ((pw 0) * (la st))) (pe + ((pw 0) * (la st))) tin slp late srv hv av bd sh mL mB thr) := hD
    refine lv_aload_n hx hb dX8_stirs_28 rfl (lv_at hl 0 rfl) ?_
    refine zc_v (va_runV (As := []) (rest := []) ⟨hx, hb, hml, hown, hts⟩ (kX8_wakes l dC dI cI cJ cZ q pw co la vo nC par div dee use mrun nT due lat wk nE tk ld rule now st asl idn idl (sp + ((pw 0) * (la st))) (pe + ((pw 0) * (la st))) tin slp late srv hv av bd sh mL mB thr (by first | assumption | omega | exact b2i_01 _) H.size) (cwV 0 hts gX8_stirs_X8_wakes rfl rfl rfl (by decide +kernel) ⟨Nat.le_of_ble_eq_true rfl, Nat.le_of_ble_eq_true rfl⟩) (zpV hK hP hD [0, 1, 2, 3, 4, 5, 6, 7, 8, 9, 10, 11, 12, 13, 14, 15, 16, 17, 18, 19] rfl rfl 0 rfl rfl) rfl rfl hl.1 rfl (lv_room (Nat.le_of_ble_eq_true rfl)) dX8_stirs_29 ⟨Nat.le_of_ble_eq_true rfl, Nat.le_of_ble_eq_true rfl⟩) hP hD hS hA [0, 1, 2, 3, 4, 5, 6, 7, 8, 9, 10, 11, 12, 13, 14, 15, 16, 17, 18, 19] [] rfl rfl rfl (by decide) (fun u_6 H locs r_5 hP hD hS => ?_)
    have hP : va_P (dC, dI) vwCl (wM cI cJ cZ q pw co la vo nC par div dee use mrun nT due lat wk nE tk ld rule now 0 asl (idn + 1) (uZ idl (idn % 4) (now - asl)) (sp + ((pw 0) * (la st))) (pe + ((pw 0) * (la st))) tin slp late srv hv av bd sh mL mB thr) H := hP
    have hD : va_D A (wM cI cJ cZ q pw co la vo nC par div dee use mrun nT due lat wk nE tk ld rule now 0 asl (idn + 1) (uZ idl (idn % 4) (now - asl)) (sp + ((pw 0) * (la st))) (pe + ((pw 0) * (la st))) tin slp late srv hv av bd sh mL mB thr) := hD
    subst hQ
    exact zret_v (W1 := fun u9 : Int × Int × Int × (Int → Int) × Int => wM cI cJ cZ q pw co la vo nC par div dee use mrun nT due lat wk nE tk ld rule now (u9.1) asl (u9.2.2.2.2) (u9.2.2.2.1) (u9.2.1) (u9.2.2.1) tin slp late srv hv av bd sh mL mB thr) (0, sp + ((pw 0) * (la st)), pe + ((pw 0) * (la st)), uZ idl (idn % 4) (now - asl), idn + 1) hx hb hr hP hD hS hlocks dX8_stirs_32 (by first | (exact (if_pos (by omega)).symm) | (exact (if_neg (by omega)).symm))
def rmX8_findsRunning : Room := { frames := 0, cells := 0, slots := 0, locals := 0 }
set_option maxRecDepth 100000 in
set_option maxHeartbeats 4000000 in
theorem kX8_findsRunning (l : Launch) (dC : Nat → ClassId) (dI : Nat → Nat → Nat) (cI cJ cZ : ClassId) (q : Nat → Nat)  (pw : Int → Int) (co : Int → Int) (la : Int → Int) (vo : Int → Int) (nC : Int) (par : Int → Int) (div : Int → Int) (dee : Int → Int) (use : Int → Int) (mrun : Int → Int) (nT : Int) (due : Int → Int) (lat : Int → Int) (wk : Int → Int) (nE : Int) (tk : Int → Int) (ld : Int → Int) (rule : Int) (now : Int) (st : Int) (asl : Int) (idn : Int) (idl : Int → Int) (sp : Int) (pe : Int) (tin : Int → Int) (slp : Int) (late : Int) (srv : Int) (hv : Int → Int) (av : Int) (bd : Int) (sh : Int) (mL : Int → Int) (mB : Int → Int) (thr : Int) (hnC : 1 ≤ nC ∧ nC ≤ 8) (hpar : ∀ c : Int, 1 ≤ c → c < nC → 0 ≤ par c ∧ par c < c) (huse : rgZ use 8 9) (hmrun : tfZ mrun) : zMv l yX8_findsRunning wsX8_findsRunning rmX8_findsRunning (dC, dI) (zT cI cJ cZ) (wM cI cJ cZ q pw co la vo nC par div dee use mrun nT due lat wk nE tk ld rule now st asl idn idl sp pe tin slp late srv hv av bd sh mL mB thr) [.ref (q 0)] (fun (_ : Unit) => True) (fun _ : Unit => wM cI cJ cZ q pw co la vo nC par div dee use (rnZ par (nC - 1) (r0Z use 8 mrun)) nT due lat wk nE tk ld rule now st asl idn idl sp pe tin slp late srv hv av bd sh mL mB thr) 0 0 := by
  refine zent_v (cc := cX8_findsRunning) (maxL := 2) (ret := none) (by decide +kernel) rfl (Nat.le_of_ble_eq_true rfl) ?_
  intro p e s m below meth c A ls hE hP hK hA hD hS hl
  obtain ⟨hx, hb, hr, hml, hown, hts, hlocks, hmn⟩ := hE
  have hinX8 : ∀ w ∈ u_ws RX8 TX8 36, w ∈ wsX8_findsRunning := by decide +kernel
  have hl : lv_has ls 2 [(0, .ref (q 0))] := hl
  refine z_gen (fun Q hQ => ?_)
  refine lv_iconst (v := iI 0) hx hb dX8_findsRunning_0 rfl ?_
  refine lv_istore_n (lv' := [(1, .int (iI 0)), (0, .ref (q 0))]) hx hb dX8_findsRunning_1 rfl hl (by decide) rfl (fun ls hl => ?_)
  have L2 : ∀ (fuel : Nat) (k : Int), (0 ≤ k ∧ k ≤ 8) → ((8 - k).toNat) < fuel → ∀ (H : Heap) (locs : List Loc), va_P (dC, dI) vwCl (wM cI cJ cZ q pw co la vo nC par div dee use (r0Z use k mrun) nT due lat wk nE tk ld rule now st asl idn idl sp pe tin slp late srv hv av bd sh mL mB thr) H → va_D A (wM cI cJ cZ q pw co la vo nC par div dee use (r0Z use k mrun) nT due lat wk nE tk ld rule now st asl idn idl sp pe tin slp late srv hv av bd sh mL mB thr) → va_S A s.heap H locs → ∀ ls : Array Slot, lv_has ls 2 [(1, .int (iI k)), (0, .ref (q 0))] → W p l e rmX8_findsRunning s m ([.ref (q 0)] : List Value).toArray below meth c H locs 0 0 Q (F0 m 2 ls []) := by
    intro fuel
    induction fuel with
    | zero =>
      intro k hk hmeas H locs hP hD hS ls hl
      exact absurd hmeas (by omega)
    | succ fuel ih =>
      intro k hk hmeas H locs hP hD hS ls hl
      refine lv_iload_n hx hb dX8_findsRunning_2 rfl (lv_at hl 0 rfl) ?_
      refine lv_bipush (v := iI 8) hx hb dX8_findsRunning_3 (by decide) ?_
      refine zi_cge (tgt := 34) hx hb (by omega) (by decide) dX8_findsRunning_5 (by decide) (fun c_1 => ?_) (fun c_1 => ?_)
      · skip
        refine lv_aload_n hx hb dX8_findsRunning_34 rfl (lv_at hl 1 rfl) ?_
        refine va_get (D := (dC, dI)) (ci := 8) (v := .int (iI nC)) (C := RX8) (T := TX8) (N := 36) hx hb hts hinX8 hown hK.1 hP 0 rfl rfl 4 (by decide) (hts _ (List.mem_of_getElem? (i := 3) rfl)) (fun _ h9 => h9) rfl dX8_findsRunning_35 ?_
        refine lv_iconst (v := iI 1) hx hb dX8_findsRunning_38 rfl ?_
        refine zi_sub hx hb dX8_findsRunning_39 ?_
        refine lv_istore_n (lv' := [(1, .int (iI (nC - 1))), (0, .ref (q 0))]) hx hb dX8_findsRunning_40 rfl hl (by decide) rfl (fun ls hl => ?_)
        have L41 : ∀ (fuel : Nat) (k2 : Int) (r : Int → Int), (0 ≤ k2 ∧ k2 < nC) → (tfZ r) → (rnZ par (nC - 1) (r0Z use 8 mrun) = rnZ par k2 r) → (k2.toNat) < fuel → ∀ (H : Heap) (locs : List Loc), va_P (dC, dI) vwCl (wM cI cJ cZ q pw co la vo nC par div dee use r nT due lat wk nE tk ld rule now st asl idn idl sp pe tin slp late srv hv av bd sh mL mB thr) H → va_D A (wM cI cJ cZ q pw co la vo nC par div dee use r nT due lat wk nE tk ld rule now st asl idn idl sp pe tin slp late srv hv av bd sh mL mB thr) → va_S A s.heap H locs → ∀ ls : Array Slot, lv_has ls 2 [(1, .int (iI k2)), (0, .ref (q 0))] → W p l e rmX8_findsRunning s m ([.ref (q 0)] : List Value).toArray below meth c H locs 0 0 Q (F0 m 41 ls []) := by
          intro fuel
          induction fuel with
          | zero =>
            intro k2 r hk2 hr2 hI hmeas H locs hP hD hS ls hl
            exact absurd hmeas (by omega)
          | succ fuel ih =>
            intro k2 r hk2 hr2 hI hmeas H locs hP hD hS ls hl
            refine lv_iload_n hx hb dX8_findsRunning_41 rfl (lv_at hl 0 rfl) ?_
            refine zi_fle (tgt := 90) hx hb (by omega) dX8_findsRunning_42 (by decide) (fun c_2 => ?_) (fun c_2 => ?_)
            · skip
              subst hQ
              have w_3 : (rnZ par (nC - 1) (r0Z use 8 mrun)) = r := by rw [hI]; exact fdZ_n _ (by omega) _
              have hP : va_P (dC, dI) vwCl (wM cI cJ cZ q pw co la vo nC par div dee use (rnZ par (nC - 1) (r0Z use 8 mrun)) nT due lat wk nE tk ld rule now st asl idn idl sp pe tin slp late srv hv av bd sh mL mB thr) H := by rw [w_3]; exact hP
              have hD : va_D A (wM cI cJ cZ q pw co la vo nC par div dee use (rnZ par (nC - 1) (r0Z use 8 mrun)) nT due lat wk nE tk ld rule now st asl idn idl sp pe tin slp late srv hv av bd sh mL mB thr) := by rw [w_3]; exact hD
              exact zret_v (W1 := fun _ : Unit => wM cI cJ cZ q pw co la vo nC par div dee use (rnZ par (nC - 1) (r0Z use 8 mrun)) nT due lat wk nE tk ld rule now st asl idn idl sp pe tin slp late srv hv av bd sh mL mB thr) () hx hb hr hP hD hS hlocks dX8_findsRunning_90 (by trivial)
            · skip
              refine lv_aload_n hx hb dX8_findsRunning_45 rfl (lv_at hl 1 rfl) ?_
              refine va_get (D := (dC, dI)) (ci := 8) (v := .ref (q 9)) (C := RX8) (T := TX8) (N := 36) hx hb hts hinX8 hown hK.1 hP 0 rfl rfl 9 (by decide) (hts _ (List.mem_of_getElem? (i := 1) rfl)) (fun _ h9 => h9) rfl dX8_findsRunning_46 ?_
              refine lv_aload_n hx hb dX8_findsRunning_49 rfl (lv_at hl 1 rfl) ?_
              refine va_get (D := (dC, dI)) (ci := 8) (v := .ref (q 5)) (C := RX8) (T := TX8) (N := 36) hx hb hts hinX8 hown hK.1 hP 0 rfl rfl 5 (by decide) (hts _ (List.mem_of_getElem? (i := 4) rfl)) (fun _ h9 => h9) rfl dX8_findsRunning_50 ?_
              have hp9 := hpar k2 (by omega) (by omega)
              have hz1 := hr2 k2 (by omega) (by omega)
              have hz2 := hr2 (par k2) (by omega) (by omega)
              refine lv_iload_n hx hb dX8_findsRunning_53 rfl (lv_at hl 0 rfl) ?_
              refine za_ld hx hb hK hP 5 0 rfl rfl (by omega) (by omega) dX8_findsRunning_54 ?_
              have e_4 := hpar k2 (by omega) (by omega)
              refine lv_aload_n hx hb dX8_findsRunning_55 rfl (lv_at hl 1 rfl) ?_
              refine va_get (D := (dC, dI)) (ci := 8) (v := .ref (q 9)) (C := RX8) (T := TX8) (N := 36) hx hb hts hinX8 hown hK.1 hP 0 rfl rfl 9 (by decide) (hts _ (List.mem_of_getElem? (i := 1) rfl)) (fun _ h9 => h9) rfl dX8_findsRunning_56 ?_
              refine lv_aload_n hx hb dX8_findsRunning_59 rfl (lv_at hl 1 rfl) ?_
              refine va_get (D := (dC, dI)) (ci := 8) (v := .ref (q 5)) (C := RX8) (T := TX8) (N := 36) hx hb hts hinX8 hown hK.1 hP 0 rfl rfl 5 (by decide) (hts _ (List.mem_of_getElem? (i := 4) rfl)) (fun _ h9 => h9) rfl dX8_findsRunning_60 ?_
              refine lv_iload_n hx hb dX8_findsRunning_63 rfl (lv_at hl 0 rfl) ?_
              refine za_ld hx hb hK hP 5 0 rfl rfl (by omega) (by omega) dX8_findsRunning_64 ?_
              have e_5 := hpar k2 (by omega) (by omega)
              refine za_zld hx hb hK hP 9 2 rfl rfl (by omega) (by omega) dX8_findsRunning_65 ?_
              refine zi_fne (tgt := 78) hx hb (by omega) dX8_findsRunning_66 (by decide) (fun c_6 => ?_) (fun c_6 => ?_)
              · skip
                refine lv_iconst (v := iI 1) hx hb dX8_findsRunning_78 rfl ?_
                refine lv_goto (tgt := 83) hx hb dX8_findsRunning_79 (by decide) ?_
                refine za_zst hx hb hK hP hD hS 9 2 rfl rfl (by omega) (by omega) (by first | decide | omega) dX8_findsRunning_83 (fun H locs hP hD hS => ?_)
                have hP : va_P (dC, dI) vwCl (wM cI cJ cZ q pw co la vo nC par div dee use (uZ r (par k2) 1) nT due lat wk nE tk ld rule now st asl idn idl sp pe tin slp late srv hv av bd sh mL mB thr) H := hP
                have hD : va_D A (wM cI cJ cZ q pw co la vo nC par div dee use (uZ r (par k2) 1) nT due lat wk nE tk ld rule now st asl idn idl sp pe tin slp late srv hv av bd sh mL mB thr) := hD
                refine lv_iinc (v := iI (k2 + (-1))) (lv' := [(1, .int (iI (k2 + (-1)))), (0, .ref (q 0))]) hx hb dX8_findsRunning_84 hl (k := 0) rfl (iI_add _ _) (by decide) rfl (fun ls hl => ?_)
                refine lv_goto (tgt := 41) hx hb dX8_findsRunning_87 (by decide) ?_
                exact ih (k2 + (-1)) (uZ r (par k2) 1) (by omega) (tf_u hr2 (by decide)) (by rw [hI]; unfold rnZ; rw [fdZ_s _ (by omega)]; unfold rnF; by_cases q9 : r k2 ≠ 0; (first | (rw [if_pos q9]; rfl) | exact absurd q9 (by omega)); (rw [if_neg q9]; first | rfl | (have e9 : r (par k2) = 0 := (by omega); have e8 := uZ_id r (par k2); rw [e9] at e8; rw [e8]; rfl) | (have e9 : r (par k2) = 1 := (by omega); have e8 := uZ_id r (par k2); rw [e9] at e8; rw [e8]; rfl))) (by omega) H locs hP hD hS ls (lv_sub hl [0, 1] rfl)
              · skip
                refine lv_aload_n hx hb dX8_findsRunning_69 rfl (lv_at hl 1 rfl) ?_
                refine va_get (D := (dC, dI)) (ci := 8) (v := .ref (q 9)) (C := RX8) (T := TX8) (N := 36) hx hb hts hinX8 hown hK.1 hP 0 rfl rfl 9 (by decide) (hts _ (List.mem_of_getElem? (i := 1) rfl)) (fun _ h9 => h9) rfl dX8_findsRunning_70 ?_
                refine lv_iload_n hx hb dX8_findsRunning_73 rfl (lv_at hl 0 rfl) ?_
                refine za_zld hx hb hK hP 9 2 rfl rfl (by omega) (by omega) dX8_findsRunning_74 ?_
                refine zi_feq (tgt := 82) hx hb (by omega) dX8_findsRunning_75 (by decide) (fun c_7 => ?_) (fun c_7 => ?_)
                · skip
                  refine lv_iconst (v := iI 0) hx hb dX8_findsRunning_82 rfl ?_
                  refine za_zst hx hb hK hP hD hS 9 2 rfl rfl (by omega) (by omega) (by first | decide | omega) dX8_findsRunning_83 (fun H locs hP hD hS => ?_)
                  have hP : va_P (dC, dI) vwCl (wM cI cJ cZ q pw co la vo nC par div dee use (uZ r (par k2) 0) nT due lat wk nE tk ld rule now st asl idn idl sp pe tin slp late srv hv av bd sh mL mB thr) H := hP
                  have hD : va_D A (wM cI cJ cZ q pw co la vo nC par div dee use (uZ r (par k2) 0) nT due lat wk nE tk ld rule now st asl idn idl sp pe tin slp late srv hv av bd sh mL mB thr) := hD
                  refine lv_iinc (v := iI (k2 + (-1))) (lv' := [(1, .int (iI (k2 + (-1)))), (0, .ref (q 0))]) hx hb dX8_findsRunning_84 hl (k := 0) rfl (iI_add _ _) (by decide) rfl (fun ls hl => ?_)
                  refine lv_goto (tgt := 41) hx hb dX8_findsRunning_87 (by decide) ?_
                  exact ih (k2 + (-1)) (uZ r (par k2) 0) (by omega) (tf_u hr2 (by decide)) (by rw [hI]; unfold rnZ; rw [fdZ_s _ (by omega)]; unfold rnF; by_cases q9 : r k2 ≠ 0; (first | (rw [if_pos q9]; rfl) | exact absurd q9 (by omega)); (rw [if_neg q9]; first | rfl | (have e9 : r (par k2) = 0 := (by omega); have e8 := uZ_id r (par k2); rw [e9] at e8; rw [e8]; rfl) | (have e9 : r (par k2) = 1 := (by omega); have e8 := uZ_id r (par k2); rw [e9] at e8; rw [e8]; rfl))) (by omega) H locs hP hD hS ls (lv_sub hl [0, 1] rfl)
                · skip
                  refine lv_iconst (v := iI 1) hx hb dX8_findsRunning_78 rfl ?_
                  refine lv_goto (tgt := 83) hx hb dX8_findsRunning_79 (by decide) ?_
                  refine za_zst hx hb hK hP hD hS 9 2 rfl rfl (by omega) (by omega) (by first | decide | omega) dX8_findsRunning_83 (fun H locs hP hD hS => ?_)
                  have hP : va_P (dC, dI) vwCl (wM cI cJ cZ q pw co la vo nC par div dee use (uZ r (par k2) 1) nT due lat wk nE tk ld rule now st asl idn idl sp pe tin slp late srv hv av bd sh mL mB thr) H := hP
                  have hD : va_D A (wM cI cJ cZ q pw co la vo nC par div dee use (uZ r (par k2) 1) nT due lat wk nE tk ld rule now st asl idn idl sp pe tin slp late srv hv av bd sh mL mB thr) := hD
                  refine lv_iinc (v := iI (k2 + (-1))) (lv' := [(1, .int (iI (k2 + (-1)))), (0, .ref (q 0))]) hx hb dX8_findsRunning_84 hl (k := 0) rfl (iI_add _ _) (by decide) rfl (fun ls hl => ?_)
                  refine lv_goto (tgt := 41) hx hb dX8_findsRunning_87 (by decide) ?_
                  exact ih (k2 + (-1)) (uZ r (par k2) 1) (by omega) (tf_u hr2 (by decide)) (by rw [hI]; unfold rnZ; rw [fdZ_s _ (by omega)]; unfold rnF; by_cases q9 : r k2 ≠ 0; (first | (rw [if_pos q9]; rfl) | exact absurd q9 (by omega)); (rw [if_neg q9]; first | rfl | (have e9 : r (par k2) = 0 := (by omega); have e8 := uZ_id r (par k2); rw [e9] at e8; rw [e8]; rfl) | (have e9 : r (par k2) = 1 := (by omega); have e8 := uZ_id r (par k2); rw [e9] at e8; rw [e8]; rfl))) (by omega) H locs hP hD hS ls (lv_sub hl [0, 1] rfl)
        exact L41 (_ + 1) (nC - 1) (r0Z use k mrun) (by omega) (r0_t hmrun) (by rw [show k = 8 by omega]) (Nat.lt_succ_self _) H locs hP hD hS ls (lv_sub hl [0, 1] rfl)
      · skip
        refine lv_aload_n hx hb dX8_findsRunning_8 rfl (lv_at hl 1 rfl) ?_
        refine va_get (D := (dC, dI)) (ci := 8) (v := .ref (q 9)) (C := RX8) (T := TX8) (N := 36) hx hb hts hinX8 hown hK.1 hP 0 rfl rfl 9 (by decide) (hts _ (List.mem_of_getElem? (i := 1) rfl)) (fun _ h9 => h9) rfl dX8_findsRunning_9 ?_
        refine lv_iload_n hx hb dX8_findsRunning_12 rfl (lv_at hl 0 rfl) ?_
        refine lv_aload_n hx hb dX8_findsRunning_13 rfl (lv_at hl 1 rfl) ?_
        refine va_get (D := (dC, dI)) (ci := 8) (v := .ref (q 8)) (C := RX8) (T := TX8) (N := 36) hx hb hts hinX8 hown hK.1 hP 0 rfl rfl 8 (by decide) (hts _ (List.mem_of_getElem? (i := 2) rfl)) (fun _ h9 => h9) rfl dX8_findsRunning_14 ?_
        refine lv_iload_n hx hb dX8_findsRunning_17 rfl (lv_at hl 0 rfl) ?_
        refine za_ld hx hb hK hP 8 0 rfl rfl (by omega) (by omega) dX8_findsRunning_18 ?_
        have e_8 := huse k (by omega) (by omega)
        refine zi_fle (tgt := 26) hx hb (by omega) dX8_findsRunning_19 (by decide) (fun c_9 => ?_) (fun c_9 => ?_)
        · skip
          refine lv_iconst (v := iI 0) hx hb dX8_findsRunning_26 rfl ?_
          refine za_zst hx hb hK hP hD hS 9 2 rfl rfl (by omega) (by omega) (by first | decide | omega) dX8_findsRunning_27 (fun H locs hP hD hS => ?_)
          have hP : va_P (dC, dI) vwCl (wM cI cJ cZ q pw co la vo nC par div dee use (uZ (r0Z use k mrun) k 0) nT due lat wk nE tk ld rule now st asl idn idl sp pe tin slp late srv hv av bd sh mL mB thr) H := hP
          have hD : va_D A (wM cI cJ cZ q pw co la vo nC par div dee use (uZ (r0Z use k mrun) k 0) nT due lat wk nE tk ld rule now st asl idn idl sp pe tin slp late srv hv av bd sh mL mB thr) := hD
          refine lv_iinc (v := iI (k + 1)) (lv' := [(1, .int (iI (k + 1))), (0, .ref (q 0))]) hx hb dX8_findsRunning_28 hl (k := 0) rfl (iI_add _ _) (by decide) rfl (fun ls hl => ?_)
          refine lv_goto (tgt := 2) hx hb dX8_findsRunning_31 (by decide) ?_
          have w_10 : (r0Z use (k + 1) mrun) = (uZ (r0Z use k mrun) k 0) := by first | exact r0Z_s (by omega) (b2i_t (by omega)).symm | exact r0Z_s (by omega) (b2i_f (by omega)).symm
          have hP : va_P (dC, dI) vwCl (wM cI cJ cZ q pw co la vo nC par div dee use (r0Z use (k + 1) mrun) nT due lat wk nE tk ld rule now st asl idn idl sp pe tin slp late srv hv av bd sh mL mB thr) H := by rw [w_10]; exact hP
          have hD : va_D A (wM cI cJ cZ q pw co la vo nC par div dee use (r0Z use (k + 1) mrun) nT due lat wk nE tk ld rule now st asl idn idl sp pe tin slp late srv hv av bd sh mL mB thr) := by rw [w_10]; exact hD
          exact ih (k + 1) (by omega) (by omega) H locs hP hD hS ls (lv_sub hl [0, 1] rfl)
        · skip
          refine lv_iconst (v := iI 1) hx hb dX8_findsRunning_22 rfl ?_
          refine lv_goto (tgt := 27) hx hb dX8_findsRunning_23 (by decide) ?_
          refine za_zst hx hb hK hP hD hS 9 2 rfl rfl (by omega) (by omega) (by first | decide | omega) dX8_findsRunning_27 (fun H locs hP hD hS => ?_)
          have hP : va_P (dC, dI) vwCl (wM cI cJ cZ q pw co la vo nC par div dee use (uZ (r0Z use k mrun) k 1) nT due lat wk nE tk ld rule now st asl idn idl sp pe tin slp late srv hv av bd sh mL mB thr) H := hP
          have hD : va_D A (wM cI cJ cZ q pw co la vo nC par div dee use (uZ (r0Z use k mrun) k 1) nT due lat wk nE tk ld rule now st asl idn idl sp pe tin slp late srv hv av bd sh mL mB thr) := hD
          refine lv_iinc (v := iI (k + 1)) (lv' := [(1, .int (iI (k + 1))), (0, .ref (q 0))]) hx hb dX8_findsRunning_28 hl (k := 0) rfl (iI_add _ _) (by decide) rfl (fun ls hl => ?_)
          refine lv_goto (tgt := 2) hx hb dX8_findsRunning_31 (by decide) ?_
          have w_11 : (r0Z use (k + 1) mrun) = (uZ (r0Z use k mrun) k 1) := by first | exact r0Z_s (by omega) (b2i_t (by omega)).symm | exact r0Z_s (by omega) (b2i_f (by omega)).symm
          have hP : va_P (dC, dI) vwCl (wM cI cJ cZ q pw co la vo nC par div dee use (r0Z use (k + 1) mrun) nT due lat wk nE tk ld rule now st asl idn idl sp pe tin slp late srv hv av bd sh mL mB thr) H := by rw [w_11]; exact hP
          have hD : va_D A (wM cI cJ cZ q pw co la vo nC par div dee use (r0Z use (k + 1) mrun) nT due lat wk nE tk ld rule now st asl idn idl sp pe tin slp late srv hv av bd sh mL mB thr) := by rw [w_11]; exact hD
          exact ih (k + 1) (by omega) (by omega) H locs hP hD hS ls (lv_sub hl [0, 1] rfl)
  have w_12 : (r0Z use 0 mrun) = mrun := by exact r0Z_0
  have hP : va_P (dC, dI) vwCl (wM cI cJ cZ q pw co la vo nC par div dee use (r0Z use 0 mrun) nT due lat wk nE tk ld rule now st asl idn idl sp pe tin slp late srv hv av bd sh mL mB thr) s.heap := by rw [w_12]; exact hP
  have hD : va_D A (wM cI cJ cZ q pw co la vo nC par div dee use (r0Z use 0 mrun) nT due lat wk nE tk ld rule now st asl idn idl sp pe tin slp late srv hv av bd sh mL mB thr) := by rw [w_12]; exact hD
  exact L2 (_ + 1) 0 (by omega) (Nat.lt_succ_self _) s.heap [] hP hD hS ls (lv_sub hl [0, 1] rfl)
def rmX8_deepestNow : Room := { frames := 1, cells := 0, slots := 0, locals := 21 }
set_option maxRecDepth 100000 in
set_option maxHeartbeats 4000000 in
theorem kX8_deepestNow (l : Launch) (dC : Nat → ClassId) (dI : Nat → Nat → Nat) (cI cJ cZ : ClassId) (q : Nat → Nat)  (pw : Int → Int) (co : Int → Int) (la : Int → Int) (vo : Int → Int) (nC : Int) (par : Int → Int) (div : Int → Int) (dee : Int → Int) (use : Int → Int) (mrun : Int → Int) (nT : Int) (due : Int → Int) (lat : Int → Int) (wk : Int → Int) (nE : Int) (tk : Int → Int) (ld : Int → Int) (rule : Int) (now : Int) (st : Int) (asl : Int) (idn : Int) (idl : Int → Int) (sp : Int) (pe : Int) (tin : Int → Int) (slp : Int) (late : Int) (srv : Int) (hv : Int → Int) (av : Int) (bd : Int) (sh : Int) (mL : Int → Int) (mB : Int → Int) (thr : Int) (hnC : 1 ≤ nC ∧ nC ≤ 8) (hpar : ∀ c : Int, 1 ≤ c → c < nC → 0 ≤ par c ∧ par c < c) (huse : rgZ use 8 9) (hmrun : tfZ mrun) (hde : rgZ dee 8 3) (hvo : rgZ vo 6 3) : zMi l yX8_deepestNow wsX8_deepestNow rmX8_deepestNow (dC, dI) (zT cI cJ cZ) (wM cI cJ cZ q pw co la vo nC par div dee use mrun nT due lat wk nE tk ld rule now st asl idn idl sp pe tin slp late srv hv av bd sh mL mB thr) [.ref (q 0)] (fun (r9 : Int) (_ : Unit) => r9 = dzM vo par dee use nC) (fun _ : Unit => wM cI cJ cZ q pw co la vo nC par div dee use (rnZ par (nC - 1) (r0Z use 8 mrun)) nT due lat wk nE tk ld rule now st asl idn idl sp pe tin slp late srv hv av bd sh mL mB thr) 0 0 := by
  refine zent_i (cc := cX8_deepestNow) (maxL := 3) (ret := (some .int)) (by decide +kernel) rfl (Nat.le_of_ble_eq_true rfl) ?_
  intro p e s m below meth c A ls hE hP hK hA hD hS hl
  obtain ⟨hx, hb, hr, hml, hown, hts, hlocks, hmn⟩ := hE
  have hinX8 : ∀ w ∈ u_ws RX8 TX8 36, w ∈ wsX8_deepestNow := by decide +kernel
  have hl : lv_has ls 3 [(0, .ref (q 0))] := hl
  refine z_gen (fun Q hQ => ?_)
  refine lv_iconst (v := iI 3) hx hb dX8_deepestNow_0 rfl ?_
  refine lv_istore_n (lv' := [(1, .int (iI 3)), (0, .ref (q 0))]) hx hb dX8_deepestNow_1 rfl hl (by decide) rfl (fun ls hl => ?_)
  refine lv_iconst (v := iI 0) hx hb dX8_deepestNow_2 rfl ?_
  refine lv_istore_n (lv' := [(2, .int (iI 0)), (1, .int (iI 3)), (0, .ref (q 0))]) hx hb dX8_deepestNow_3 rfl hl (by decide) rfl (fun ls hl => ?_)
  have L4 : ∀ (fuel : Nat) (k : Int) (x : Int), (0 ≤ k ∧ k ≤ 6) → (x = foZ (mvF vo) 3 k) → ((6 - k).toNat) < fuel → ∀ ls : Array Slot, lv_has ls 3 [(2, .int (iI k)), (1, .int (iI x)), (0, .ref (q 0))] → W p l e rmX8_deepestNow s m ([.ref (q 0)] : List Value).toArray below meth c s.heap [] 0 0 Q (F0 m 4 ls []) := by
    intro fuel
    induction fuel with
    | zero =>
      intro k x hk hI hmeas ls hl
      exact absurd hmeas (by omega)
    | succ fuel ih =>
      intro k x hk hI hmeas ls hl
      have hx9 : 0 ≤ x ∧ x ≤ 3 := by rw [hI]; exact mvF_r hvo hk
      refine lv_iload_n hx hb dX8_deepestNow_4 rfl (lv_at hl 0 rfl) ?_
      refine lv_bipush (v := iI 6) hx hb dX8_deepestNow_5 (by decide) ?_
      refine zi_cge (tgt := 37) hx hb (by omega) (by decide) dX8_deepestNow_7 (by decide) (fun c_1 => ?_) (fun c_1 => ?_)
      · skip
        refine lv_aload_n hx hb dX8_deepestNow_37 rfl (lv_at hl 2 rfl) ?_
        refine zc_v (va_runV (As := []) (rest := []) ⟨hx, hb, hml, hown, hts⟩ (kX8_findsRunning l dC dI cI cJ cZ q pw co la vo nC par div dee use mrun nT due lat wk nE tk ld rule now st asl idn idl sp pe tin slp late srv hv av bd sh mL mB thr (by first | assumption | omega | exact b2i_01 _) (by first | assumption | omega | exact b2i_01 _) (by first | assumption | omega | exact b2i_01 _) (by first | assumption | omega | exact b2i_01 _) s.heap.size) (cwV 0 hts gX8_deepestNow_X8_findsRunning rfl rfl rfl (by decide +kernel) ⟨Nat.le_of_ble_eq_true rfl, Nat.le_of_ble_eq_true rfl⟩) (zpV hK hP hD [0, 1, 2, 3, 4, 5, 6, 7, 8, 9, 10, 11, 12, 13, 14, 15, 16, 17, 18, 19] rfl rfl 0 rfl rfl) rfl rfl hl.1 rfl (lv_room (Nat.le_of_ble_eq_true rfl)) dX8_deepestNow_38 ⟨Nat.le_of_ble_eq_true rfl, Nat.le_of_ble_eq_true rfl⟩) hP hD hS hA [0, 1, 2, 3, 4, 5, 6, 7, 8, 9, 10, 11, 12, 13, 14, 15, 16, 17, 18, 19] [] rfl rfl rfl (by decide) (fun u_3 H locs r_2 hP hD hS => ?_)
        have hP : va_P (dC, dI) vwCl (wM cI cJ cZ q pw co la vo nC par div dee use (rnZ par (nC - 1) (r0Z use 8 mrun)) nT due lat wk nE tk ld rule now st asl idn idl sp pe tin slp late srv hv av bd sh mL mB thr) H := hP
        have hD : va_D A (wM cI cJ cZ q pw co la vo nC par div dee use (rnZ par (nC - 1) (r0Z use 8 mrun)) nT due lat wk nE tk ld rule now st asl idn idl sp pe tin slp late srv hv av bd sh mL mB thr) := hD
        refine lv_iconst (v := iI 1) hx hb dX8_deepestNow_41 rfl ?_
        refine lv_istore_n (lv' := [(2, .int (iI 1)), (1, .int (iI x)), (0, .ref (q 0))]) hx hb dX8_deepestNow_42 rfl hl (by decide) rfl (fun ls hl => ?_)
        have L43 : ∀ (fuel : Nat) (c9 : Int) (y : Int), (1 ≤ c9 ∧ c9 ≤ nC) → (y = foZ (mdF (rnZ par (nC - 1) (r0Z use 8 mrun)) dee) (foZ (mvF vo) 3 6) (c9 - 1)) → ((nC - c9).toNat) < fuel → ∀ (H : Heap) (locs : List Loc), va_P (dC, dI) vwCl (wM cI cJ cZ q pw co la vo nC par div dee use (rnZ par (nC - 1) (r0Z use 8 mrun)) nT due lat wk nE tk ld rule now st asl idn idl sp pe tin slp late srv hv av bd sh mL mB thr) H → va_D A (wM cI cJ cZ q pw co la vo nC par div dee use (rnZ par (nC - 1) (r0Z use 8 mrun)) nT due lat wk nE tk ld rule now st asl idn idl sp pe tin slp late srv hv av bd sh mL mB thr) → va_S A s.heap H locs → ∀ ls : Array Slot, lv_has ls 3 [(2, .int (iI c9)), (1, .int (iI y)), (0, .ref (q 0))] → W p l e rmX8_deepestNow s m ([.ref (q 0)] : List Value).toArray below meth c H locs 0 0 Q (F0 m 43 ls []) := by
          intro fuel
          induction fuel with
          | zero =>
            intro c9 y hc9 hJ hmeas H locs hP hD hS ls hl
            exact absurd hmeas (by omega)
          | succ fuel ih =>
            intro c9 y hc9 hJ hmeas H locs hP hD hS ls hl
            have hy9 : 0 ≤ y ∧ y ≤ 3 := by rw [hJ]; exact mdF_r hvo hde (by omega)
            have ht9 : tfZ (rnZ par (nC - 1) (r0Z use 8 mrun)) := rn_t (r0_t hmrun)
            refine lv_iload_n hx hb dX8_deepestNow_43 rfl (lv_at hl 0 rfl) ?_
            refine lv_aload_n hx hb dX8_deepestNow_44 rfl (lv_at hl 2 rfl) ?_
            refine va_get (D := (dC, dI)) (ci := 8) (v := .int (iI nC)) (C := RX8) (T := TX8) (N := 36) hx hb hts hinX8 hown hK.1 hP 0 rfl rfl 4 (by decide) (hts _ (List.mem_of_getElem? (i := 2) rfl)) (fun _ h9 => h9) rfl dX8_deepestNow_45 ?_
            refine zi_cge (tgt := 87) hx hb (by omega) (by omega) dX8_deepestNow_48 (by decide) (fun c_5 => ?_) (fun c_5 => ?_)
            · skip
              refine lv_iload_n hx hb dX8_deepestNow_87 rfl (lv_at hl 1 rfl) ?_
              subst hQ
              exact zret_i (W1 := fun _ : Unit => wM cI cJ cZ q pw co la vo nC par div dee use (rnZ par (nC - 1) (r0Z use 8 mrun)) nT due lat wk nE tk ld rule now st asl idn idl sp pe tin slp late srv hv av bd sh mL mB thr) () hx hb hr hP hD hS hlocks dX8_deepestNow_88 (by (obtain rfl : c9 = nC := by omega); rw [hJ]; exact dzM_run hnC hpar)
            · skip
              refine lv_aload_n hx hb dX8_deepestNow_51 rfl (lv_at hl 2 rfl) ?_
              refine va_get (D := (dC, dI)) (ci := 8) (v := .ref (q 9)) (C := RX8) (T := TX8) (N := 36) hx hb hts hinX8 hown hK.1 hP 0 rfl rfl 9 (by decide) (hts _ (List.mem_of_getElem? (i := 3) rfl)) (fun _ h9 => h9) rfl dX8_deepestNow_52 ?_
              refine lv_iload_n hx hb dX8_deepestNow_55 rfl (lv_at hl 0 rfl) ?_
              have hz9 := ht9 c9 (by omega) (by omega)
              refine za_zld hx hb hK hP 9 2 rfl rfl (by omega) (by omega) dX8_deepestNow_56 ?_
              refine zi_feq (tgt := 79) hx hb (by omega) dX8_deepestNow_57 (by decide) (fun c_6 => ?_) (fun c_6 => ?_)
              · skip
                refine lv_iload_n hx hb dX8_deepestNow_79 rfl (lv_at hl 1 rfl) ?_
                refine lv_istore_n (lv' := [(1, .int (iI y)), (2, .int (iI c9)), (0, .ref (q 0))]) hx hb dX8_deepestNow_80 rfl hl (by decide) rfl (fun ls hl => ?_)
                refine lv_iinc (v := iI (c9 + 1)) (lv' := [(2, .int (iI (c9 + 1))), (1, .int (iI y)), (0, .ref (q 0))]) hx hb dX8_deepestNow_81 hl (k := 1) rfl (iI_add _ _) (by decide) rfl (fun ls hl => ?_)
                refine lv_goto (tgt := 43) hx hb dX8_deepestNow_84 (by decide) ?_
                exact ih (c9 + 1) y (by omega) (by rw [show c9 + 1 - 1 = (c9 - 1) + 1 by omega, foZ_s _ _ (by omega), ← hJ]; unfold mdF; rw [show c9 - 1 + 1 = c9 by omega]; first | (rw [if_pos (by omega)]; done) | (rw [if_neg (by omega)]; done)) (by omega) H locs hP hD hS ls (lv_sub hl [0, 1, 2] rfl)
              · skip
                refine lv_aload_n hx hb dX8_deepestNow_60 rfl (lv_at hl 2 rfl) ?_
                refine va_get (D := (dC, dI)) (ci := 8) (v := .ref (q 7)) (C := RX8) (T := TX8) (N := 36) hx hb hts hinX8 hown hK.1 hP 0 rfl rfl 7 (by decide) (hts _ (List.mem_of_getElem? (i := 4) rfl)) (fun _ h9 => h9) rfl dX8_deepestNow_61 ?_
                refine lv_iload_n hx hb dX8_deepestNow_64 rfl (lv_at hl 0 rfl) ?_
                refine za_ld hx hb hK hP 7 0 rfl rfl (by omega) (by omega) dX8_deepestNow_65 ?_
                have e_7 := hde c9 (by omega) (by omega)
                refine lv_iload_n hx hb dX8_deepestNow_66 rfl (lv_at hl 1 rfl) ?_
                refine zi_cge (tgt := 79) hx hb (by omega) (by omega) dX8_deepestNow_67 (by decide) (fun c_8 => ?_) (fun c_8 => ?_)
                · skip
                  refine lv_iload_n hx hb dX8_deepestNow_79 rfl (lv_at hl 1 rfl) ?_
                  refine lv_istore_n (lv' := [(1, .int (iI y)), (2, .int (iI c9)), (0, .ref (q 0))]) hx hb dX8_deepestNow_80 rfl hl (by decide) rfl (fun ls hl => ?_)
                  refine lv_iinc (v := iI (c9 + 1)) (lv' := [(2, .int (iI (c9 + 1))), (1, .int (iI y)), (0, .ref (q 0))]) hx hb dX8_deepestNow_81 hl (k := 1) rfl (iI_add _ _) (by decide) rfl (fun ls hl => ?_)
                  refine lv_goto (tgt := 43) hx hb dX8_deepestNow_84 (by decide) ?_
                  exact ih (c9 + 1) y (by omega) (by rw [show c9 + 1 - 1 = (c9 - 1) + 1 by omega, foZ_s _ _ (by omega), ← hJ]; unfold mdF; rw [show c9 - 1 + 1 = c9 by omega]; first | (rw [if_pos (by omega)]; done) | (rw [if_neg (by omega)]; done)) (by omega) H locs hP hD hS ls (lv_sub hl [0, 1, 2] rfl)
                · skip
                  refine lv_aload_n hx hb dX8_deepestNow_70 rfl (lv_at hl 2 rfl) ?_
                  refine va_get (D := (dC, dI)) (ci := 8) (v := .ref (q 7)) (C := RX8) (T := TX8) (N := 36) hx hb hts hinX8 hown hK.1 hP 0 rfl rfl 7 (by decide) (hts _ (List.mem_of_getElem? (i := 4) rfl)) (fun _ h9 => h9) rfl dX8_deepestNow_71 ?_
                  refine lv_iload_n hx hb dX8_deepestNow_74 rfl (lv_at hl 0 rfl) ?_
                  refine za_ld hx hb hK hP 7 0 rfl rfl (by omega) (by omega) dX8_deepestNow_75 ?_
                  have e_9 := hde c9 (by omega) (by omega)
                  refine lv_goto (tgt := 80) hx hb dX8_deepestNow_76 (by decide) ?_
                  refine lv_istore_n (lv' := [(1, .int (iI (dee c9))), (2, .int (iI c9)), (0, .ref (q 0))]) hx hb dX8_deepestNow_80 rfl hl (by decide) rfl (fun ls hl => ?_)
                  refine lv_iinc (v := iI (c9 + 1)) (lv' := [(2, .int (iI (c9 + 1))), (1, .int (iI (dee c9))), (0, .ref (q 0))]) hx hb dX8_deepestNow_81 hl (k := 1) rfl (iI_add _ _) (by decide) rfl (fun ls hl => ?_)
                  refine lv_goto (tgt := 43) hx hb dX8_deepestNow_84 (by decide) ?_
                  exact ih (c9 + 1) (dee c9) (by omega) (by rw [show c9 + 1 - 1 = (c9 - 1) + 1 by omega, foZ_s _ _ (by omega), ← hJ]; unfold mdF; rw [show c9 - 1 + 1 = c9 by omega]; first | (rw [if_pos (by omega)]; done) | (rw [if_neg (by omega)]; done)) (by omega) H locs hP hD hS ls (lv_sub hl [0, 1, 2] rfl)
        exact L43 (_ + 1) 1 x (by omega) (by rw [hI, show k = 6 by omega]; rfl) (Nat.lt_succ_self _) H locs hP hD hS ls (lv_sub hl [0, 1, 2] rfl)
      · skip
        refine lv_aload_n hx hb dX8_deepestNow_10 rfl (lv_at hl 2 rfl) ?_
        refine va_get (D := (dC, dI)) (ci := 8) (v := .ref (q 4)) (C := RX8) (T := TX8) (N := 36) hx hb hts hinX8 hown hK.1 hP 0 rfl rfl 3 (by decide) (hts _ (List.mem_of_getElem? (i := 1) rfl)) (fun _ h9 => h9) rfl dX8_deepestNow_11 ?_
        refine lv_iload_n hx hb dX8_deepestNow_14 rfl (lv_at hl 0 rfl) ?_
        refine za_ld hx hb hK hP 4 0 rfl rfl (by omega) (by omega) dX8_deepestNow_15 ?_
        have e_10 := hvo k (by omega) (by omega)
        refine lv_iload_n hx hb dX8_deepestNow_16 rfl (lv_at hl 1 rfl) ?_
        refine zi_cge (tgt := 29) hx hb (by omega) (by omega) dX8_deepestNow_17 (by decide) (fun c_11 => ?_) (fun c_11 => ?_)
        · skip
          refine lv_iload_n hx hb dX8_deepestNow_29 rfl (lv_at hl 1 rfl) ?_
          refine lv_istore_n (lv' := [(1, .int (iI x)), (2, .int (iI k)), (0, .ref (q 0))]) hx hb dX8_deepestNow_30 rfl hl (by decide) rfl (fun ls hl => ?_)
          refine lv_iinc (v := iI (k + 1)) (lv' := [(2, .int (iI (k + 1))), (1, .int (iI x)), (0, .ref (q 0))]) hx hb dX8_deepestNow_31 hl (k := 1) rfl (iI_add _ _) (by decide) rfl (fun ls hl => ?_)
          refine lv_goto (tgt := 4) hx hb dX8_deepestNow_34 (by decide) ?_
          exact ih (k + 1) x (by omega) (by rw [foZ_s _ _ (by omega), ← hI]; unfold mvF; first | (rw [if_pos (by omega)]; done) | (rw [if_neg (by omega)]; done)) (by omega) ls (lv_sub hl [0, 1, 2] rfl)
        · skip
          refine lv_aload_n hx hb dX8_deepestNow_20 rfl (lv_at hl 2 rfl) ?_
          refine va_get (D := (dC, dI)) (ci := 8) (v := .ref (q 4)) (C := RX8) (T := TX8) (N := 36) hx hb hts hinX8 hown hK.1 hP 0 rfl rfl 3 (by decide) (hts _ (List.mem_of_getElem? (i := 1) rfl)) (fun _ h9 => h9) rfl dX8_deepestNow_21 ?_
          refine lv_iload_n hx hb dX8_deepestNow_24 rfl (lv_at hl 0 rfl) ?_
          refine za_ld hx hb hK hP 4 0 rfl rfl (by omega) (by omega) dX8_deepestNow_25 ?_
          have e_12 := hvo k (by omega) (by omega)
          refine lv_goto (tgt := 30) hx hb dX8_deepestNow_26 (by decide) ?_
          refine lv_istore_n (lv' := [(1, .int (iI (vo k))), (2, .int (iI k)), (0, .ref (q 0))]) hx hb dX8_deepestNow_30 rfl hl (by decide) rfl (fun ls hl => ?_)
          refine lv_iinc (v := iI (k + 1)) (lv' := [(2, .int (iI (k + 1))), (1, .int (iI (vo k))), (0, .ref (q 0))]) hx hb dX8_deepestNow_31 hl (k := 1) rfl (iI_add _ _) (by decide) rfl (fun ls hl => ?_)
          refine lv_goto (tgt := 4) hx hb dX8_deepestNow_34 (by decide) ?_
          exact ih (k + 1) (vo k) (by omega) (by rw [foZ_s _ _ (by omega), ← hI]; unfold mvF; first | (rw [if_pos (by omega)]; done) | (rw [if_neg (by omega)]; done)) (by omega) ls (lv_sub hl [0, 1, 2] rfl)
  exact L4 (_ + 1) 0 3 (by omega) (rfl) (Nat.lt_succ_self _) ls (lv_sub hl [0, 1, 2] rfl)
def rmX8_idleCost : Room := { frames := 0, cells := 0, slots := 0, locals := 0 }
set_option maxRecDepth 100000 in
set_option maxHeartbeats 4000000 in
theorem kX8_idleCost (l : Launch) (dC : Nat → ClassId) (dI : Nat → Nat → Nat) (cI cJ cZ : ClassId) (q : Nat → Nat)  (pw : Int → Int) (co : Int → Int) (la : Int → Int) (vo : Int → Int) (nC : Int) (par : Int → Int) (div : Int → Int) (dee : Int → Int) (use : Int → Int) (mrun : Int → Int) (nT : Int) (due : Int → Int) (lat : Int → Int) (wk : Int → Int) (nE : Int) (tk : Int → Int) (ld : Int → Int) (rule : Int) (now : Int) (st : Int) (asl : Int) (idn : Int) (idl : Int → Int) (sp : Int) (pe : Int) (tin : Int → Int) (slp : Int) (late : Int) (srv : Int) (hv : Int → Int) (av : Int) (bd : Int) (sh : Int) (mL : Int → Int) (mB : Int → Int) (thr : Int) (s9 n : Int) (hs9 : 0 ≤ s9 ∧ s9 ≤ 3) (hn : -100000 ≤ n ∧ n ≤ 100000) (hpw : rgZ pw 4 1000) (hco : rgZ co 4 10000) (hla : rgZ la 4 100) : zPl l yX8_idleCost wsX8_idleCost rmX8_idleCost (dC, dI) (zT cI cJ cZ) (wM cI cJ cZ q pw co la vo nC par div dee use mrun nT due lat wk nE tk ld rule now st asl idn idl sp pe tin slp late srv hv av bd sh mL mB thr) [.ref (q 0), .int (iI s9), .int (iI n)] (mcZ pw co la s9 n) := by
  refine zent_pl (cc := cX8_idleCost) (maxL := 3) (ret := (some .long)) (by decide +kernel) rfl (Nat.le_of_ble_eq_true rfl) ?_
  intro p e s m below meth c ls hE hP hK hl
  obtain ⟨hx, hb, hr, hml, hown, hts, hlocks, hmn⟩ := hE
  have hinX8 : ∀ w ∈ u_ws RX8 TX8 36, w ∈ wsX8_idleCost := by decide +kernel
  have hl : lv_has ls 3 [(0, .ref (q 0)), (1, .int (iI s9)), (2, .int (iI n))] := hl
  refine z_gen (fun Q hQ => ?_)
  refine lv_iload_n hx hb dX8_idleCost_0 rfl (lv_at hl 1 rfl) ?_
  refine zi_fne (tgt := 17) hx hb (by omega) dX8_idleCost_1 (by decide) (fun c_1 => ?_) (fun c_1 => ?_)
  · skip
    refine lv_aload_n hx hb dX8_idleCost_17 rfl (lv_at hl 0 rfl) ?_
    refine va_get (D := (dC, dI)) (ci := 8) (v := .ref (q 2)) (C := RX8) (T := TX8) (N := 36) hx hb hts hinX8 hown hK.1 hP 0 rfl rfl 1 (by decide) (hts _ (List.mem_of_getElem? (i := 2) rfl)) (fun _ h9 => h9) rfl dX8_idleCost_18 ?_
    refine lv_iload_n hx hb dX8_idleCost_21 rfl (lv_at hl 1 rfl) ?_
    refine za_ld hx hb hK hP 2 0 rfl rfl (by omega) (by omega) dX8_idleCost_22 ?_
    have e_2 := hco s9 (by omega) (by omega)
    refine zi_l hx hb (by omega) dX8_idleCost_23 ?_
    refine lv_aload_n hx hb dX8_idleCost_24 rfl (lv_at hl 0 rfl) ?_
    refine va_get (D := (dC, dI)) (ci := 8) (v := .ref (q 1)) (C := RX8) (T := TX8) (N := 36) hx hb hts hinX8 hown hK.1 hP 0 rfl rfl 0 (by decide) (hts _ (List.mem_of_getElem? (i := 1) rfl)) (fun _ h9 => h9) rfl dX8_idleCost_25 ?_
    refine lv_iload_n hx hb dX8_idleCost_28 rfl (lv_at hl 1 rfl) ?_
    refine za_ld hx hb hK hP 1 0 rfl rfl (by omega) (by omega) dX8_idleCost_29 ?_
    have e_3 := hpw s9 (by omega) (by omega)
    refine zi_l hx hb (by omega) dX8_idleCost_30 ?_
    refine lv_iload_n hx hb dX8_idleCost_31 rfl (lv_at hl 2 rfl) ?_
    refine lv_aload_n hx hb dX8_idleCost_32 rfl (lv_at hl 0 rfl) ?_
    refine va_get (D := (dC, dI)) (ci := 8) (v := .ref (q 3)) (C := RX8) (T := TX8) (N := 36) hx hb hts hinX8 hown hK.1 hP 0 rfl rfl 2 (by decide) (hts _ (List.mem_of_getElem? (i := 3) rfl)) (fun _ h9 => h9) rfl dX8_idleCost_33 ?_
    refine lv_iload_n hx hb dX8_idleCost_36 rfl (lv_at hl 1 rfl) ?_
    refine za_ld hx hb hK hP 3 0 rfl rfl (by omega) (by omega) dX8_idleCost_37 ?_
    have e_4 := hla s9 (by omega) (by omega)
    refine zi_sub hx hb dX8_idleCost_38 ?_
    refine zi_l hx hb (by omega) dX8_idleCost_39 ?_
    refine zl_mul hx hb dX8_idleCost_40 ?_
    refine zl_add hx hb dX8_idleCost_41 ?_
    refine lv_aload_n hx hb dX8_idleCost_42 rfl (lv_at hl 0 rfl) ?_
    refine va_get (D := (dC, dI)) (ci := 8) (v := .ref (q 1)) (C := RX8) (T := TX8) (N := 36) hx hb hts hinX8 hown hK.1 hP 0 rfl rfl 0 (by decide) (hts _ (List.mem_of_getElem? (i := 1) rfl)) (fun _ h9 => h9) rfl dX8_idleCost_43 ?_
    refine lv_iconst (v := iI 0) hx hb dX8_idleCost_46 rfl ?_
    refine za_ld hx hb hK hP 1 0 rfl rfl (by omega) (by omega) dX8_idleCost_47 ?_
    have e_5 := hpw 0 (by omega) (by omega)
    refine zi_l hx hb (by omega) dX8_idleCost_48 ?_
    refine lv_aload_n hx hb dX8_idleCost_49 rfl (lv_at hl 0 rfl) ?_
    refine va_get (D := (dC, dI)) (ci := 8) (v := .ref (q 3)) (C := RX8) (T := TX8) (N := 36) hx hb hts hinX8 hown hK.1 hP 0 rfl rfl 2 (by decide) (hts _ (List.mem_of_getElem? (i := 3) rfl)) (fun _ h9 => h9) rfl dX8_idleCost_50 ?_
    refine lv_iload_n hx hb dX8_idleCost_53 rfl (lv_at hl 1 rfl) ?_
    refine za_ld hx hb hK hP 3 0 rfl rfl (by omega) (by omega) dX8_idleCost_54 ?_
    have e_6 := hla s9 (by omega) (by omega)
    refine zi_l hx hb (by omega) dX8_idleCost_55 ?_
    refine zl_mul hx hb dX8_idleCost_56 ?_
    refine zl_add hx hb dX8_idleCost_57 ?_
    subst hQ
    exact zret_pl hx hb hr hlocks dX8_idleCost_58 (by first | (exact (if_pos (by omega)).symm) | (exact (if_neg (by omega)).symm))
  · skip
    refine lv_iload_n hx hb dX8_idleCost_4 rfl (lv_at hl 2 rfl) ?_
    refine zi_l hx hb (by omega) dX8_idleCost_5 ?_
    refine lv_aload_n hx hb dX8_idleCost_6 rfl (lv_at hl 0 rfl) ?_
    refine va_get (D := (dC, dI)) (ci := 8) (v := .ref (q 1)) (C := RX8) (T := TX8) (N := 36) hx hb hts hinX8 hown hK.1 hP 0 rfl rfl 0 (by decide) (hts _ (List.mem_of_getElem? (i := 1) rfl)) (fun _ h9 => h9) rfl dX8_idleCost_7 ?_
    refine lv_iconst (v := iI 0) hx hb dX8_idleCost_10 rfl ?_
    refine za_ld hx hb hK hP 1 0 rfl rfl (by omega) (by omega) dX8_idleCost_11 ?_
    have e_7 := hpw 0 (by omega) (by omega)
    refine zi_l hx hb (by omega) dX8_idleCost_12 ?_
    refine zl_mul hx hb dX8_idleCost_13 ?_
    refine lv_goto (tgt := 58) hx hb dX8_idleCost_14 (by decide) ?_
    subst hQ
    exact zret_pl hx hb hr hlocks dX8_idleCost_58 (by first | (exact (if_pos (by omega)).symm) | (exact (if_neg (by omega)).symm))
def rmX8_evenAt : Room := { frames := 1, cells := 0, slots := 0, locals := 22 }
set_option maxRecDepth 100000 in
set_option maxHeartbeats 4000000 in
theorem kX8_evenAt (l : Launch) (dC : Nat → ClassId) (dI : Nat → Nat → Nat) (cI cJ cZ : ClassId) (q : Nat → Nat)  (pw : Int → Int) (co : Int → Int) (la : Int → Int) (vo : Int → Int) (nC : Int) (par : Int → Int) (div : Int → Int) (dee : Int → Int) (use : Int → Int) (mrun : Int → Int) (nT : Int) (due : Int → Int) (lat : Int → Int) (wk : Int → Int) (nE : Int) (tk : Int → Int) (ld : Int → Int) (rule : Int) (now : Int) (st : Int) (asl : Int) (idn : Int) (idl : Int → Int) (sp : Int) (pe : Int) (tin : Int → Int) (slp : Int) (late : Int) (srv : Int) (hv : Int → Int) (av : Int) (bd : Int) (sh : Int) (mL : Int → Int) (mB : Int → Int) (thr : Int) (s9 : Int) (hs9 : 1 ≤ s9 ∧ s9 ≤ 3) (hpw : rgZ pw 4 1000) (hco : rgZ co 4 10000) (hla : rgZ la 4 100) : zPi l yX8_evenAt wsX8_evenAt rmX8_evenAt (dC, dI) (zT cI cJ cZ) (wM cI cJ cZ q pw co la vo nC par div dee use mrun nT due lat wk nE tk ld rule now st asl idn idl sp pe tin slp late srv hv av bd sh mL mB thr) [.ref (q 0), .int (iI s9)] (evA pw co la s9) := by
  refine zent_pi (cc := cX8_evenAt) (maxL := 3) (ret := (some .int)) (by decide +kernel) rfl (Nat.le_of_ble_eq_true rfl) ?_
  intro p e s m below meth c ls hE hP hK hl
  obtain ⟨hx, hb, hr, hml, hown, hts, hlocks, hmn⟩ := hE
  have hinX8 : ∀ w ∈ u_ws RX8 TX8 36, w ∈ wsX8_evenAt := by decide +kernel
  have hl : lv_has ls 3 [(0, .ref (q 0)), (1, .int (iI s9))] := hl
  refine z_gen (fun Q hQ => ?_)
  have hl9 := hla s9 (by omega) (by omega)
  have hc9 := hco s9 (by omega) (by omega)
  have h09 := hla 0 (by omega) (by omega)
  refine lv_aload_n hx hb dX8_evenAt_0 rfl (lv_at hl 0 rfl) ?_
  refine va_get (D := (dC, dI)) (ci := 8) (v := .ref (q 3)) (C := RX8) (T := TX8) (N := 36) hx hb hts hinX8 hown hK.1 hP 0 rfl rfl 2 (by decide) (hts _ (List.mem_of_getElem? (i := 1) rfl)) (fun _ h9 => h9) rfl dX8_evenAt_1 ?_
  refine lv_iload_n hx hb dX8_evenAt_4 rfl (lv_at hl 1 rfl) ?_
  refine za_ld hx hb hK hP 3 0 rfl rfl (by omega) (by omega) dX8_evenAt_5 ?_
  have e_1 := hla s9 (by omega) (by omega)
  refine lv_istore_n (lv' := [(2, .int (iI (la s9))), (0, .ref (q 0)), (1, .int (iI s9))]) hx hb dX8_evenAt_6 rfl hl (by decide) rfl (fun ls hl => ?_)
  have L7 : ∀ (fuel : Nat) (n : Int), (la s9 ≤ n ∧ n ≤ 5001) → (∀ j : Int, la s9 ≤ j → j < n → ¬ co s9 ≤ (pw 0 - pw s9) * (j - la s9)) → ((5001 - n).toNat) < fuel → ∀ ls : Array Slot, lv_has ls 3 [(2, .int (iI n)), (0, .ref (q 0)), (1, .int (iI s9))] → W p l e rmX8_evenAt s m ([.ref (q 0), .int (iI s9)] : List Value).toArray below meth c s.heap [] 0 0 Q (F0 m 7 ls []) := by
    intro fuel
    induction fuel with
    | zero =>
      intro n hn hI hmeas ls hl
      exact absurd hmeas (by omega)
    | succ fuel ih =>
      intro n hn hI hmeas ls hl
      refine lv_iload_n hx hb dX8_evenAt_7 rfl (lv_at hl 0 rfl) ?_
      refine lv_sipush (v := iI 5000) hx hb dX8_evenAt_8 (by decide) ?_
      refine zi_cgt (tgt := 36) hx hb (by omega) (by decide) dX8_evenAt_11 (by decide) (fun c_2 => ?_) (fun c_2 => ?_)
      · skip
        refine lv_iload_n hx hb dX8_evenAt_36 rfl (lv_at hl 0 rfl) ?_
        refine lv_sipush (v := iI 5000) hx hb dX8_evenAt_37 (by decide) ?_
        refine zi_cle (tgt := 47) hx hb (by omega) (by decide) dX8_evenAt_40 (by decide) (fun c_3 => ?_) (fun c_3 => ?_)
        · skip
          refine lv_iload_n hx hb dX8_evenAt_47 rfl (lv_at hl 0 rfl) ?_
          subst hQ
          exact zret_pi hx hb hr hlocks dX8_evenAt_48 (by first | (exact (ev_2 (by omega) (fun j h1 h2 => hI j h1 (by omega))).symm) | (exact (ev_1 (by omega) (by omega) (hq8.mp (by omega)) hI).symm) | (exfalso; omega))
        · skip
          refine lv_iconst (v := iI (-1)) hx hb dX8_evenAt_43 rfl ?_
          refine lv_goto (tgt := 48) hx hb dX8_evenAt_44 (by decide) ?_
          subst hQ
          exact zret_pi hx hb hr hlocks dX8_evenAt_48 (by first | (exact (ev_2 (by omega) (fun j h1 h2 => hI j h1 (by omega))).symm) | (exact (ev_1 (by omega) (by omega) (hq8.mp (by omega)) hI).symm) | (exfalso; omega))
      · skip
        refine lv_aload_n hx hb dX8_evenAt_14 rfl (lv_at hl 1 rfl) ?_
        refine lv_iload_n hx hb dX8_evenAt_15 rfl (lv_at hl 2 rfl) ?_
        refine lv_iload_n hx hb dX8_evenAt_16 rfl (lv_at hl 0 rfl) ?_
        refine zc_pl (va_runV (As := [.int (iI s9), .int (iI n)]) (rest := []) ⟨hx, hb, hml, hown, hts⟩ (kX8_idleCost l dC dI cI cJ cZ q pw co la vo nC par div dee use mrun nT due lat wk nE tk ld rule now st asl idn idl sp pe tin slp late srv hv av bd sh mL mB thr s9 n (by first | assumption | omega | exact b2i_01 _) (by first | assumption | omega | exact b2i_01 _) (by first | assumption | omega | exact b2i_01 _) (by first | assumption | omega | exact b2i_01 _) (by first | assumption | omega | exact b2i_01 _)) (cwV 2 hts gX8_evenAt_X8_idleCost rfl rfl rfl (by decide +kernel) ⟨Nat.le_of_ble_eq_true rfl, Nat.le_of_ble_eq_true rfl⟩) (zqV hK hP [0, 1, 2, 3, 4, 5, 6, 7, 8, 9, 10, 11, 12, 13, 14, 15, 16, 17, 18, 19] rfl 0 rfl rfl) rfl rfl hl.1 rfl (lv_room (Nat.le_of_ble_eq_true rfl)) dX8_evenAt_17 ⟨Nat.le_of_ble_eq_true rfl, Nat.le_of_ble_eq_true rfl⟩) ?_
        have hm1 := mc_r (n := n) hpw hco hla (show 0 ≤ s9 ∧ s9 ≤ 3 by omega) (by omega)
        refine lv_aload_n hx hb dX8_evenAt_20 rfl (lv_at hl 1 rfl) ?_
        refine lv_iconst (v := iI 0) hx hb dX8_evenAt_21 rfl ?_
        refine lv_iload_n hx hb dX8_evenAt_22 rfl (lv_at hl 0 rfl) ?_
        refine zc_pl (va_runV (As := [.int (iI 0), .int (iI n)]) (rest := [.long (lI (mcZ pw co la s9 n))]) ⟨hx, hb, hml, hown, hts⟩ (kX8_idleCost l dC dI cI cJ cZ q pw co la vo nC par div dee use mrun nT due lat wk nE tk ld rule now st asl idn idl sp pe tin slp late srv hv av bd sh mL mB thr 0 n (by first | assumption | omega | exact b2i_01 _) (by first | assumption | omega | exact b2i_01 _) (by first | assumption | omega | exact b2i_01 _) (by first | assumption | omega | exact b2i_01 _) (by first | assumption | omega | exact b2i_01 _)) (cwV 2 hts gX8_evenAt_X8_idleCost rfl rfl rfl (by decide +kernel) ⟨Nat.le_of_ble_eq_true rfl, Nat.le_of_ble_eq_true rfl⟩) (zqV hK hP [0, 1, 2, 3, 4, 5, 6, 7, 8, 9, 10, 11, 12, 13, 14, 15, 16, 17, 18, 19] rfl 0 rfl rfl) rfl rfl hl.1 rfl (lv_room (Nat.le_of_ble_eq_true rfl)) dX8_evenAt_23 ⟨Nat.le_of_ble_eq_true rfl, Nat.le_of_ble_eq_true rfl⟩) ?_
        have hm2 : 0 ≤ mcZ pw co la 0 n ∧ mcZ pw co la 0 n ≤ 100110000 := by have := mul_r (show 0 ≤ n ∧ n ≤ 100000 by omega) (hpw 0 (by omega) (by omega)); unfold mcZ; rw [if_pos rfl]; omega
        have hq8 := mc_le (pw := pw) (co := co) (la := la) (n := n) hs9.1
        refine zl_cle (tgt := 36) hx hb (by omega) (by omega) dX8_evenAt_26 dX8_evenAt_27 (by decide) (fun c_4 => ?_) (fun c_4 => ?_)
        · skip
          refine lv_iload_n hx hb dX8_evenAt_36 rfl (lv_at hl 0 rfl) ?_
          refine lv_sipush (v := iI 5000) hx hb dX8_evenAt_37 (by decide) ?_
          refine zi_cle (tgt := 47) hx hb (by omega) (by decide) dX8_evenAt_40 (by decide) (fun c_5 => ?_) (fun c_5 => ?_)
          · skip
            refine lv_iload_n hx hb dX8_evenAt_47 rfl (lv_at hl 0 rfl) ?_
            subst hQ
            exact zret_pi hx hb hr hlocks dX8_evenAt_48 (by first | (exact (ev_2 (by omega) (fun j h1 h2 => hI j h1 (by omega))).symm) | (exact (ev_1 (by omega) (by omega) (hq8.mp (by omega)) hI).symm) | (exfalso; omega))
          · skip
            refine lv_iconst (v := iI (-1)) hx hb dX8_evenAt_43 rfl ?_
            refine lv_goto (tgt := 48) hx hb dX8_evenAt_44 (by decide) ?_
            subst hQ
            exact zret_pi hx hb hr hlocks dX8_evenAt_48 (by first | (exact (ev_2 (by omega) (fun j h1 h2 => hI j h1 (by omega))).symm) | (exact (ev_1 (by omega) (by omega) (hq8.mp (by omega)) hI).symm) | (exfalso; omega))
        · skip
          have hq9 : ¬ co s9 ≤ (pw 0 - pw s9) * (n - la s9) := fun z => by have := hq8.mpr z; omega
          refine lv_iinc (v := iI (n + 1)) (lv' := [(2, .int (iI (n + 1))), (0, .ref (q 0)), (1, .int (iI s9))]) hx hb dX8_evenAt_30 hl (k := 0) rfl (iI_add _ _) (by decide) rfl (fun ls hl => ?_)
          refine lv_goto (tgt := 7) hx hb dX8_evenAt_33 (by decide) ?_
          exact ih (n + 1) (by omega) (fun j h1 h2 => by rcases Int.lt_or_le j n with h3 | h3; exact hI j h1 h3; (obtain rfl : j = n := by omega); exact hq9) (by omega) ls (lv_sub hl [0, 1, 2] rfl)
  exact L7 (_ + 1) (la s9) (by omega) (fun j h1 h2 => absurd h2 (by omega)) (Nat.lt_succ_self _) ls (lv_sub hl [0, 1, 2] rfl)
def rmX8_next : Room := { frames := 0, cells := 0, slots := 0, locals := 0 }
set_option maxRecDepth 100000 in
set_option maxHeartbeats 4000000 in
theorem kX8_next (l : Launch) (dC : Nat → ClassId) (dI : Nat → Nat → Nat) (cI cJ cZ : ClassId) (q : Nat → Nat)  (pw : Int → Int) (co : Int → Int) (la : Int → Int) (vo : Int → Int) (nC : Int) (par : Int → Int) (div : Int → Int) (dee : Int → Int) (use : Int → Int) (mrun : Int → Int) (nT : Int) (due : Int → Int) (lat : Int → Int) (wk : Int → Int) (nE : Int) (tk : Int → Int) (ld : Int → Int) (rule : Int) (now : Int) (st : Int) (asl : Int) (idn : Int) (idl : Int → Int) (sp : Int) (pe : Int) (tin : Int → Int) (slp : Int) (late : Int) (srv : Int) (hv : Int → Int) (av : Int) (bd : Int) (sh : Int) (mL : Int → Int) (mB : Int → Int) (thr : Int) (hnT : 0 ≤ nT ∧ nT ≤ 12) (htd : rgZ due 12 1000000) (htl : rgZ lat 12 1000000) (htw : rgZ wk 12 50) : zPi l yX8_next wsX8_next rmX8_next (dC, dI) (zT cI cJ cZ) (wM cI cJ cZ q pw co la vo nC par div dee use mrun nT due lat wk nE tk ld rule now st asl idn idl sp pe tin slp late srv hv av bd sh mL mB thr) [.ref (q 0)] (nxZ lat nT) := by
  refine zent_pi (cc := cX8_next) (maxL := 3) (ret := (some .int)) (by decide +kernel) rfl (Nat.le_of_ble_eq_true rfl) ?_
  intro p e s m below meth c ls hE hP hK hl
  obtain ⟨hx, hb, hr, hml, hown, hts, hlocks, hmn⟩ := hE
  have hinX8 : ∀ w ∈ u_ws RX8 TX8 36, w ∈ wsX8_next := by decide +kernel
  have hl : lv_has ls 3 [(0, .ref (q 0))] := hl
  refine z_gen (fun Q hQ => ?_)
  refine lv_ldc (v := iI 1000000000) hx hb hown (hts _ (List.mem_of_getElem? (i := 1) rfl)) dX8_next_0 ?_
  refine lv_istore_n (lv' := [(1, .int (iI 1000000000)), (0, .ref (q 0))]) hx hb dX8_next_2 rfl hl (by decide) rfl (fun ls hl => ?_)
  refine lv_iconst (v := iI 0) hx hb dX8_next_3 rfl ?_
  refine lv_istore_n (lv' := [(2, .int (iI 0)), (1, .int (iI 1000000000)), (0, .ref (q 0))]) hx hb dX8_next_4 rfl hl (by decide) rfl (fun ls hl => ?_)
  have L5 : ∀ (fuel : Nat) (k : Int) (x : Int), (0 ≤ k ∧ k ≤ nT) → (x = nxZ lat k) → ((nT - k).toNat) < fuel → ∀ ls : Array Slot, lv_has ls 3 [(2, .int (iI k)), (1, .int (iI x)), (0, .ref (q 0))] → W p l e rmX8_next s m ([.ref (q 0)] : List Value).toArray below meth c s.heap [] 0 0 Q (F0 m 5 ls []) := by
    intro fuel
    induction fuel with
    | zero =>
      intro k x hk hI hmeas ls hl
      exact absurd hmeas (by omega)
    | succ fuel ih =>
      intro k x hk hI hmeas ls hl
      have hx9 := nx_r (n := k) htl (by omega)
      refine lv_iload_n hx hb dX8_next_5 rfl (lv_at hl 0 rfl) ?_
      refine lv_aload_n hx hb dX8_next_6 rfl (lv_at hl 2 rfl) ?_
      refine va_get (D := (dC, dI)) (ci := 8) (v := .int (iI nT)) (C := RX8) (T := TX8) (N := 36) hx hb hts hinX8 hown hK.1 hP 0 rfl rfl 10 (by decide) (hts _ (List.mem_of_getElem? (i := 2) rfl)) (fun _ h9 => h9) rfl dX8_next_7 ?_
      refine zi_cge (tgt := 40) hx hb (by omega) (by omega) dX8_next_10 (by decide) (fun c_1 => ?_) (fun c_1 => ?_)
      · skip
        refine lv_iload_n hx hb dX8_next_40 rfl (lv_at hl 1 rfl) ?_
        subst hQ
        exact zret_pi hx hb hr hlocks dX8_next_41 (by (obtain rfl : k = nT := by omega); exact hI)
      · skip
        refine lv_aload_n hx hb dX8_next_13 rfl (lv_at hl 2 rfl) ?_
        refine va_get (D := (dC, dI)) (ci := 8) (v := .ref (q 11)) (C := RX8) (T := TX8) (N := 36) hx hb hts hinX8 hown hK.1 hP 0 rfl rfl 12 (by decide) (hts _ (List.mem_of_getElem? (i := 3) rfl)) (fun _ h9 => h9) rfl dX8_next_14 ?_
        refine lv_iload_n hx hb dX8_next_17 rfl (lv_at hl 0 rfl) ?_
        refine za_ld hx hb hK hP 11 0 rfl rfl (by omega) (by omega) dX8_next_18 ?_
        have e_2 := htl k (by omega) (by omega)
        refine lv_iload_n hx hb dX8_next_19 rfl (lv_at hl 1 rfl) ?_
        refine zi_cge (tgt := 32) hx hb (by omega) (by omega) dX8_next_20 (by decide) (fun c_3 => ?_) (fun c_3 => ?_)
        · skip
          refine lv_iload_n hx hb dX8_next_32 rfl (lv_at hl 1 rfl) ?_
          refine lv_istore_n (lv' := [(1, .int (iI x)), (2, .int (iI k)), (0, .ref (q 0))]) hx hb dX8_next_33 rfl hl (by decide) rfl (fun ls hl => ?_)
          refine lv_iinc (v := iI (k + 1)) (lv' := [(2, .int (iI (k + 1))), (1, .int (iI x)), (0, .ref (q 0))]) hx hb dX8_next_34 hl (k := 1) rfl (iI_add _ _) (by decide) rfl (fun ls hl => ?_)
          refine lv_goto (tgt := 5) hx hb dX8_next_37 (by decide) ?_
          exact ih (k + 1) x (by omega) (by unfold nxZ at *; rw [foZ_s _ _ (by omega), ← hI]; unfold nxF; first | (rw [if_pos (by omega)]; done) | (rw [if_neg (by omega)]; done)) (by omega) ls (lv_sub hl [0, 1, 2] rfl)
        · skip
          refine lv_aload_n hx hb dX8_next_23 rfl (lv_at hl 2 rfl) ?_
          refine va_get (D := (dC, dI)) (ci := 8) (v := .ref (q 11)) (C := RX8) (T := TX8) (N := 36) hx hb hts hinX8 hown hK.1 hP 0 rfl rfl 12 (by decide) (hts _ (List.mem_of_getElem? (i := 3) rfl)) (fun _ h9 => h9) rfl dX8_next_24 ?_
          refine lv_iload_n hx hb dX8_next_27 rfl (lv_at hl 0 rfl) ?_
          refine za_ld hx hb hK hP 11 0 rfl rfl (by omega) (by omega) dX8_next_28 ?_
          have e_4 := htl k (by omega) (by omega)
          refine lv_goto (tgt := 33) hx hb dX8_next_29 (by decide) ?_
          refine lv_istore_n (lv' := [(1, .int (iI (lat k))), (2, .int (iI k)), (0, .ref (q 0))]) hx hb dX8_next_33 rfl hl (by decide) rfl (fun ls hl => ?_)
          refine lv_iinc (v := iI (k + 1)) (lv' := [(2, .int (iI (k + 1))), (1, .int (iI (lat k))), (0, .ref (q 0))]) hx hb dX8_next_34 hl (k := 1) rfl (iI_add _ _) (by decide) rfl (fun ls hl => ?_)
          refine lv_goto (tgt := 5) hx hb dX8_next_37 (by decide) ?_
          exact ih (k + 1) (lat k) (by omega) (by unfold nxZ at *; rw [foZ_s _ _ (by omega), ← hI]; unfold nxF; first | (rw [if_pos (by omega)]; done) | (rw [if_neg (by omega)]; done)) (by omega) ls (lv_sub hl [0, 1, 2] rfl)
  exact L5 (_ + 1) 0 1000000000 (by omega) (rfl) (Nat.lt_succ_self _) ls (lv_sub hl [0, 1, 2] rfl)
def rmX8_isEvent : Room := { frames := 0, cells := 0, slots := 0, locals := 0 }
set_option maxRecDepth 100000 in
set_option maxHeartbeats 4000000 in
theorem kX8_isEvent (l : Launch) (dC : Nat → ClassId) (dI : Nat → Nat → Nat) (cI cJ cZ : ClassId) (q : Nat → Nat)  (pw : Int → Int) (co : Int → Int) (la : Int → Int) (vo : Int → Int) (nC : Int) (par : Int → Int) (div : Int → Int) (dee : Int → Int) (use : Int → Int) (mrun : Int → Int) (nT : Int) (due : Int → Int) (lat : Int → Int) (wk : Int → Int) (nE : Int) (tk : Int → Int) (ld : Int → Int) (rule : Int) (now : Int) (st : Int) (asl : Int) (idn : Int) (idl : Int → Int) (sp : Int) (pe : Int) (tin : Int → Int) (slp : Int) (late : Int) (srv : Int) (hv : Int → Int) (av : Int) (bd : Int) (sh : Int) (mL : Int → Int) (mB : Int → Int) (thr : Int) (hnE : 0 ≤ nE ∧ nE ≤ 12) (hed : rgZ tk 12 1000000) (hew : rgZ ld 12 50) (hev : ∀ k : Int, 0 ≤ k → k < nE → now ≤ tk k) (hnow : 0 ≤ now ∧ now ≤ 200000) : zPi l yX8_isEvent wsX8_isEvent rmX8_isEvent (dC, dI) (zT cI cJ cZ) (wM cI cJ cZ q pw co la vo nC par div dee use mrun nT due lat wk nE tk ld rule now st asl idn idl sp pe tin slp late srv hv av bd sh mL mB thr) [.ref (q 0)] (b2i (adZ tk now nE = 1)) := by
  refine zent_pi (cc := cX8_isEvent) (maxL := 3) (ret := (some .boolean)) (by decide +kernel) rfl (Nat.le_of_ble_eq_true rfl) ?_
  intro p e s m below meth c ls hE hP hK hl
  obtain ⟨hx, hb, hr, hml, hown, hts, hlocks, hmn⟩ := hE
  have hinX8 : ∀ w ∈ u_ws RX8 TX8 36, w ∈ wsX8_isEvent := by decide +kernel
  have hl : lv_has ls 3 [(0, .ref (q 0))] := hl
  refine z_gen (fun Q hQ => ?_)
  refine lv_iconst (v := iI 0) hx hb dX8_isEvent_0 rfl ?_
  refine lv_istore_n (lv' := [(1, .int (iI 0)), (0, .ref (q 0))]) hx hb dX8_isEvent_1 rfl hl (by decide) rfl (fun ls hl => ?_)
  refine lv_iconst (v := iI 0) hx hb dX8_isEvent_2 rfl ?_
  refine lv_istore_n (lv' := [(2, .int (iI 0)), (1, .int (iI 0)), (0, .ref (q 0))]) hx hb dX8_isEvent_3 rfl hl (by decide) rfl (fun ls hl => ?_)
  have L4 : ∀ (fuel : Nat) (k : Int) (x : Int), (0 ≤ k ∧ k ≤ nE) → (x = adZ tk now k) → ((nE - k).toNat) < fuel → ∀ ls : Array Slot, lv_has ls 3 [(2, .int (iI k)), (1, .int (iI x)), (0, .ref (q 0))] → W p l e rmX8_isEvent s m ([.ref (q 0)] : List Value).toArray below meth c s.heap [] 0 0 Q (F0 m 4 ls []) := by
    intro fuel
    induction fuel with
    | zero =>
      intro k x hk hI hmeas ls hl
      exact absurd hmeas (by omega)
    | succ fuel ih =>
      intro k x hk hI hmeas ls hl
      have hx9 := ad_01 tk now (n := k) hk.1
      rw [← hI] at hx9
      have hev8 := fun h1 => hev k hk.1 h1
      refine lv_iload_n hx hb dX8_isEvent_4 rfl (lv_at hl 0 rfl) ?_
      refine lv_aload_n hx hb dX8_isEvent_5 rfl (lv_at hl 2 rfl) ?_
      refine va_get (D := (dC, dI)) (ci := 8) (v := .int (iI nE)) (C := RX8) (T := TX8) (N := 36) hx hb hts hinX8 hown hK.1 hP 0 rfl rfl 14 (by decide) (hts _ (List.mem_of_getElem? (i := 1) rfl)) (fun _ h9 => h9) rfl dX8_isEvent_6 ?_
      refine zi_cge (tgt := 41) hx hb (by omega) (by omega) dX8_isEvent_9 (by decide) (fun c_1 => ?_) (fun c_1 => ?_)
      · skip
        refine lv_iload_n hx hb dX8_isEvent_41 rfl (lv_at hl 1 rfl) ?_
        subst hQ
        exact zret_pz hx hb hr hlocks dX8_isEvent_42 (by first | decide | omega) (by (obtain rfl : k = nE := by omega); rw [← hI]; rcases hx9 with h8 | h8 <;> rw [h8] <;> rfl)
      · skip
        have he9 := hev k (by omega) (by omega)
        refine lv_iload_n hx hb dX8_isEvent_12 rfl (lv_at hl 1 rfl) ?_
        refine zi_fne (tgt := 29) hx hb (by omega) dX8_isEvent_13 (by decide) (fun c_2 => ?_) (fun c_2 => ?_)
        · skip
          refine lv_iconst (v := iI 1) hx hb dX8_isEvent_29 rfl ?_
          refine lv_goto (tgt := 34) hx hb dX8_isEvent_30 (by decide) ?_
          refine lv_istore_n (lv' := [(1, .int (iI 1)), (2, .int (iI k)), (0, .ref (q 0))]) hx hb dX8_isEvent_34 rfl hl (by decide) rfl (fun ls hl => ?_)
          refine lv_iinc (v := iI (k + 1)) (lv' := [(2, .int (iI (k + 1))), (1, .int (iI 1)), (0, .ref (q 0))]) hx hb dX8_isEvent_35 hl (k := 1) rfl (iI_add _ _) (by decide) rfl (fun ls hl => ?_)
          refine lv_goto (tgt := 4) hx hb dX8_isEvent_38 (by decide) ?_
          exact ih (k + 1) 1 (by omega) (by first | exact (ad_y (by omega) (by omega)).symm | exact (ad_o (by omega) (by omega)).symm | (rw [ad_z (by omega) (by omega)]; omega)) (by omega) ls (lv_sub hl [0, 1, 2] rfl)
        · skip
          refine lv_aload_n hx hb dX8_isEvent_16 rfl (lv_at hl 2 rfl) ?_
          refine va_get (D := (dC, dI)) (ci := 8) (v := .ref (q 13)) (C := RX8) (T := TX8) (N := 36) hx hb hts hinX8 hown hK.1 hP 0 rfl rfl 15 (by decide) (hts _ (List.mem_of_getElem? (i := 2) rfl)) (fun _ h9 => h9) rfl dX8_isEvent_17 ?_
          refine lv_iload_n hx hb dX8_isEvent_20 rfl (lv_at hl 0 rfl) ?_
          refine za_ld hx hb hK hP 13 0 rfl rfl (by omega) (by omega) dX8_isEvent_21 ?_
          have e_3 := hed k (by omega) (by omega)
          refine lv_aload_n hx hb dX8_isEvent_22 rfl (lv_at hl 2 rfl) ?_
          refine va_get (D := (dC, dI)) (ci := 8) (v := .int (iI now)) (C := RX8) (T := TX8) (N := 36) hx hb hts hinX8 hown hK.1 hP 0 rfl rfl 18 (by decide) (hts _ (List.mem_of_getElem? (i := 3) rfl)) (fun _ h9 => h9) rfl dX8_isEvent_23 ?_
          refine zi_cne (tgt := 33) hx hb (by omega) (by omega) dX8_isEvent_26 (by decide) (fun c_4 => ?_) (fun c_4 => ?_)
          · skip
            refine lv_iconst (v := iI 0) hx hb dX8_isEvent_33 rfl ?_
            refine lv_istore_n (lv' := [(1, .int (iI 0)), (2, .int (iI k)), (0, .ref (q 0))]) hx hb dX8_isEvent_34 rfl hl (by decide) rfl (fun ls hl => ?_)
            refine lv_iinc (v := iI (k + 1)) (lv' := [(2, .int (iI (k + 1))), (1, .int (iI 0)), (0, .ref (q 0))]) hx hb dX8_isEvent_35 hl (k := 1) rfl (iI_add _ _) (by decide) rfl (fun ls hl => ?_)
            refine lv_goto (tgt := 4) hx hb dX8_isEvent_38 (by decide) ?_
            exact ih (k + 1) 0 (by omega) (by first | exact (ad_y (by omega) (by omega)).symm | exact (ad_o (by omega) (by omega)).symm | (rw [ad_z (by omega) (by omega)]; omega)) (by omega) ls (lv_sub hl [0, 1, 2] rfl)
          · skip
            refine lv_iconst (v := iI 1) hx hb dX8_isEvent_29 rfl ?_
            refine lv_goto (tgt := 34) hx hb dX8_isEvent_30 (by decide) ?_
            refine lv_istore_n (lv' := [(1, .int (iI 1)), (2, .int (iI k)), (0, .ref (q 0))]) hx hb dX8_isEvent_34 rfl hl (by decide) rfl (fun ls hl => ?_)
            refine lv_iinc (v := iI (k + 1)) (lv' := [(2, .int (iI (k + 1))), (1, .int (iI 1)), (0, .ref (q 0))]) hx hb dX8_isEvent_35 hl (k := 1) rfl (iI_add _ _) (by decide) rfl (fun ls hl => ?_)
            refine lv_goto (tgt := 4) hx hb dX8_isEvent_38 (by decide) ?_
            exact ih (k + 1) 1 (by omega) (by first | exact (ad_y (by omega) (by omega)).symm | exact (ad_o (by omega) (by omega)).symm | (rw [ad_z (by omega) (by omega)]; omega)) (by omega) ls (lv_sub hl [0, 1, 2] rfl)
  exact L4 (_ + 1) 0 0 (by omega) (rfl) (Nat.lt_succ_self _) ls (lv_sub hl [0, 1, 2] rfl)
def rmX8_mayWake : Room := { frames := 1, cells := 0, slots := 0, locals := 22 }
set_option maxRecDepth 100000 in
set_option maxHeartbeats 4000000 in
theorem kX8_mayWake (l : Launch) (dC : Nat → ClassId) (dI : Nat → Nat → Nat) (cI cJ cZ : ClassId) (q : Nat → Nat)  (pw : Int → Int) (co : Int → Int) (la : Int → Int) (vo : Int → Int) (nC : Int) (par : Int → Int) (div : Int → Int) (dee : Int → Int) (use : Int → Int) (mrun : Int → Int) (nT : Int) (due : Int → Int) (lat : Int → Int) (wk : Int → Int) (nE : Int) (tk : Int → Int) (ld : Int → Int) (rule : Int) (now : Int) (st : Int) (asl : Int) (idn : Int) (idl : Int → Int) (sp : Int) (pe : Int) (tin : Int → Int) (slp : Int) (late : Int) (srv : Int) (hv : Int → Int) (av : Int) (bd : Int) (sh : Int) (mL : Int → Int) (mB : Int → Int) (thr : Int) (hst : 0 ≤ st ∧ st ≤ 3) (hpw : rgZ pw 4 1000) (hco : rgZ co 4 10000) (hla : rgZ la 4 100) (hnow : 0 ≤ now ∧ now ≤ 200000) (hidn : 0 ≤ idn ∧ idn ≤ 2000000) (hidl : rgZ idl 4 1000000) (hnT : 0 ≤ nT ∧ nT ≤ 12) (htd : rgZ due 12 1000000) (htl : rgZ lat 12 1000000) (htw : rgZ wk 12 50) (hnE : 0 ≤ nE ∧ nE ≤ 12) (hed : rgZ tk 12 1000000) (hew : rgZ ld 12 50) (hev : ∀ k : Int, 0 ≤ k → k < nE → now ≤ tk k) : zMv l yX8_mayWake wsX8_mayWake rmX8_mayWake (dC, dI) (zT cI cJ cZ) (wM cI cJ cZ q pw co la vo nC par div dee use mrun nT due lat wk nE tk ld rule now st asl idn idl sp pe tin slp late srv hv av bd sh mL mB thr) [.ref (q 0)] (fun (u9 : Int × Int × Int × Int × (Int → Int) × Int) => ((u9.1), (u9.2.1), (u9.2.2.1), (u9.2.2.2.1), (u9.2.2.2.2.1), (u9.2.2.2.2.2)) = w1F pw la (nxZ lat nT) (adZ tk now nE) st asl now sp pe late idl idn) (fun u9 : Int × Int × Int × Int × (Int → Int) × Int => wM cI cJ cZ q pw co la vo nC par div dee use mrun nT due lat wk nE tk ld rule now (u9.1) asl (u9.2.2.2.2.2) (u9.2.2.2.2.1) (u9.2.1) (u9.2.2.1) tin slp (u9.2.2.2.1) srv hv av bd sh mL mB thr) 0 0 := by
  refine zent_v (cc := cX8_mayWake) (maxL := 1) (ret := none) (by decide +kernel) rfl (Nat.le_of_ble_eq_true rfl) ?_
  intro p e s m below meth c A ls hE hP hK hA hD hS hl
  obtain ⟨hx, hb, hr, hml, hown, hts, hlocks, hmn⟩ := hE
  have hinX8 : ∀ w ∈ u_ws RX8 TX8 36, w ∈ wsX8_mayWake := by decide +kernel
  have hl : lv_has ls 1 [(0, .ref (q 0))] := hl
  refine z_gen (fun Q hQ => ?_)
  have hm9 := mul_r (hpw 0 (by omega) (by omega)) (hla st (by omega) (by omega))
  have hx9 := nx_r htl hnT
  refine lv_aload_n hx hb dX8_mayWake_0 rfl (lv_at hl 0 rfl) ?_
  refine va_get (D := (dC, dI)) (ci := 8) (v := .int (iI st)) (C := RX8) (T := TX8) (N := 36) hx hb hts hinX8 hown hK.1 hP 0 rfl rfl 19 (by decide) (hts _ (List.mem_of_getElem? (i := 1) rfl)) (fun _ h9 => h9) rfl dX8_mayWake_1 ?_
  refine zi_fne (tgt := 8) hx hb (by omega) dX8_mayWake_4 (by decide) (fun c_1 => ?_) (fun c_1 => ?_)
  · skip
    refine lv_aload_n hx hb dX8_mayWake_8 rfl (lv_at hl 0 rfl) ?_
    refine zc_pi (va_runV (As := []) (rest := []) ⟨hx, hb, hml, hown, hts⟩ (kX8_next l dC dI cI cJ cZ q pw co la vo nC par div dee use mrun nT due lat wk nE tk ld rule now st asl idn idl sp pe tin slp late srv hv av bd sh mL mB thr (by first | assumption | omega | exact b2i_01 _) (by first | assumption | omega | exact b2i_01 _) (by first | assumption | omega | exact b2i_01 _) (by first | assumption | omega | exact b2i_01 _)) (cwV 0 hts gX8_mayWake_X8_next rfl rfl rfl (by decide +kernel) ⟨Nat.le_of_ble_eq_true rfl, Nat.le_of_ble_eq_true rfl⟩) (zqV hK hP [0, 1, 2, 3, 4, 5, 6, 7, 8, 9, 10, 11, 12, 13, 14, 15, 16, 17, 18, 19] rfl 0 rfl rfl) rfl rfl hl.1 rfl (lv_room (Nat.le_of_ble_eq_true rfl)) dX8_mayWake_9 ⟨Nat.le_of_ble_eq_true rfl, Nat.le_of_ble_eq_true rfl⟩) ?_
    refine lv_aload_n hx hb dX8_mayWake_12 rfl (lv_at hl 0 rfl) ?_
    refine va_get (D := (dC, dI)) (ci := 8) (v := .int (iI now)) (C := RX8) (T := TX8) (N := 36) hx hb hts hinX8 hown hK.1 hP 0 rfl rfl 18 (by decide) (hts _ (List.mem_of_getElem? (i := 2) rfl)) (fun _ h9 => h9) rfl dX8_mayWake_13 ?_
    refine zi_cne (tgt := 26) hx hb (by omega) (by omega) dX8_mayWake_16 (by decide) (fun c_2 => ?_) (fun c_2 => ?_)
    · skip
      refine lv_aload_n hx hb dX8_mayWake_26 rfl (lv_at hl 0 rfl) ?_
      refine zc_pi (va_runV (As := []) (rest := []) ⟨hx, hb, hml, hown, hts⟩ (kX8_isEvent l dC dI cI cJ cZ q pw co la vo nC par div dee use mrun nT due lat wk nE tk ld rule now st asl idn idl sp pe tin slp late srv hv av bd sh mL mB thr (by first | assumption | omega | exact b2i_01 _) (by first | assumption | omega | exact b2i_01 _) (by first | assumption | omega | exact b2i_01 _) (by first | assumption | omega | exact b2i_01 _) (by first | assumption | omega | exact b2i_01 _)) (cwV 0 hts gX8_mayWake_X8_isEvent rfl rfl rfl (by decide +kernel) ⟨Nat.le_of_ble_eq_true rfl, Nat.le_of_ble_eq_true rfl⟩) (zqV hK hP [0, 1, 2, 3, 4, 5, 6, 7, 8, 9, 10, 11, 12, 13, 14, 15, 16, 17, 18, 19] rfl 0 rfl rfl) rfl rfl hl.1 rfl (lv_room (Nat.le_of_ble_eq_true rfl)) dX8_mayWake_27 ⟨Nat.le_of_ble_eq_true rfl, Nat.le_of_ble_eq_true rfl⟩) ?_
      refine zb_feq (tgt := 76) hx hb dX8_mayWake_30 (by decide) (fun c_3 => ?_) (fun c_3 => ?_)
      · skip
        subst hQ
        exact zret_v (W1 := fun u9 : Int × Int × Int × Int × (Int → Int) × Int => wM cI cJ cZ q pw co la vo nC par div dee use mrun nT due lat wk nE tk ld rule now (u9.1) asl (u9.2.2.2.2.2) (u9.2.2.2.2.1) (u9.2.1) (u9.2.2.1) tin slp (u9.2.2.2.1) srv hv av bd sh mL mB thr) (st, sp, pe, late, idl, idn) hx hb hr hP hD hS hlocks dX8_mayWake_76 (by unfold w1F wkF; first | (rw [if_pos (by omega)]; done) | (rw [if_neg (by omega), if_pos (by omega)]; done) | (rw [if_neg (by omega), if_neg (by omega), if_pos (by assumption)]; done) | (rw [if_neg (by omega), if_neg (by omega), if_neg (by assumption)]; done))
      · skip
        refine lv_aload_n hx hb dX8_mayWake_33 rfl (lv_at hl 0 rfl) ?_
        refine lv_aload_n hx hb dX8_mayWake_34 rfl (lv_at hl 0 rfl) ?_
        refine va_get (D := (dC, dI)) (ci := 8) (v := .ref (q 1)) (C := RX8) (T := TX8) (N := 36) hx hb hts hinX8 hown hK.1 hP 0 rfl rfl 0 (by decide) (hts _ (List.mem_of_getElem? (i := 3) rfl)) (fun _ h9 => h9) rfl dX8_mayWake_35 ?_
        refine lv_iconst (v := iI 0) hx hb dX8_mayWake_38 rfl ?_
        refine za_ld hx hb hK hP 1 0 rfl rfl (by omega) (by omega) dX8_mayWake_39 ?_
        refine lv_aload_n hx hb dX8_mayWake_40 rfl (lv_at hl 0 rfl) ?_
        refine va_get (D := (dC, dI)) (ci := 8) (v := .ref (q 3)) (C := RX8) (T := TX8) (N := 36) hx hb hts hinX8 hown hK.1 hP 0 rfl rfl 2 (by decide) (hts _ (List.mem_of_getElem? (i := 4) rfl)) (fun _ h9 => h9) rfl dX8_mayWake_41 ?_
        refine lv_aload_n hx hb dX8_mayWake_44 rfl (lv_at hl 0 rfl) ?_
        refine va_get (D := (dC, dI)) (ci := 8) (v := .int (iI st)) (C := RX8) (T := TX8) (N := 36) hx hb hts hinX8 hown hK.1 hP 0 rfl rfl 19 (by decide) (hts _ (List.mem_of_getElem? (i := 1) rfl)) (fun _ h9 => h9) rfl dX8_mayWake_45 ?_
        refine za_ld hx hb hK hP 3 0 rfl rfl (by omega) (by omega) dX8_mayWake_48 ?_
        refine zi_mul hx hb dX8_mayWake_49 ?_
        refine zi_l hx hb (by omega) dX8_mayWake_50 ?_
        refine zc_v (va_runV (As := [.long (lI ((pw 0) * (la st)))]) (rest := []) ⟨hx, hb, hml, hown, hts⟩ (kX8_spends l dC dI cI cJ cZ q pw co la vo nC par div dee use mrun nT due lat wk nE tk ld rule now st asl idn idl sp pe tin slp late srv hv av bd sh mL mB thr ((pw 0) * (la st)) s.heap.size) (cwV 1 hts gX8_mayWake_X8_spends rfl rfl rfl (by decide +kernel) ⟨Nat.le_of_ble_eq_true rfl, Nat.le_of_ble_eq_true rfl⟩) (zpV hK hP hD [0, 1, 2, 3, 4, 5, 6, 7, 8, 9, 10, 11, 12, 13, 14, 15, 16, 17, 18, 19] rfl rfl 0 rfl rfl) rfl rfl hl.1 rfl (lv_room (Nat.le_of_ble_eq_true rfl)) dX8_mayWake_51 ⟨Nat.le_of_ble_eq_true rfl, Nat.le_of_ble_eq_true rfl⟩) hP hD hS hA [0, 1, 2, 3, 4, 5, 6, 7, 8, 9, 10, 11, 12, 13, 14, 15, 16, 17, 18, 19] [] rfl rfl rfl (by decide) (fun u_5 H locs r_4 hP hD hS => ?_)
        have hP : va_P (dC, dI) vwCl (wM cI cJ cZ q pw co la vo nC par div dee use mrun nT due lat wk nE tk ld rule now st asl idn idl (sp + ((pw 0) * (la st))) (pe + ((pw 0) * (la st))) tin slp late srv hv av bd sh mL mB thr) H := hP
        have hD : va_D A (wM cI cJ cZ q pw co la vo nC par div dee use mrun nT due lat wk nE tk ld rule now st asl idn idl (sp + ((pw 0) * (la st))) (pe + ((pw 0) * (la st))) tin slp late srv hv av bd sh mL mB thr) := hD
        refine lv_aload_n hx hb dX8_mayWake_54 rfl (lv_at hl 0 rfl) ?_
        refine lv_dup hx hb dX8_mayWake_55 rfl ?_
        refine va_get (D := (dC, dI)) (ci := 8) (v := .int (iI late)) (C := RX8) (T := TX8) (N := 36) hx hb hts hinX8 hown hK.1 hP 0 rfl rfl 27 (by decide) (hts _ (List.mem_of_getElem? (i := 5) rfl)) (fun _ h9 => h9) rfl dX8_mayWake_56 ?_
        refine lv_aload_n hx hb dX8_mayWake_59 rfl (lv_at hl 0 rfl) ?_
        refine va_get (D := (dC, dI)) (ci := 8) (v := .ref (q 3)) (C := RX8) (T := TX8) (N := 36) hx hb hts hinX8 hown hK.1 hP 0 rfl rfl 2 (by decide) (hts _ (List.mem_of_getElem? (i := 4) rfl)) (fun _ h9 => h9) rfl dX8_mayWake_60 ?_
        refine lv_aload_n hx hb dX8_mayWake_63 rfl (lv_at hl 0 rfl) ?_
        refine va_get (D := (dC, dI)) (ci := 8) (v := .int (iI st)) (C := RX8) (T := TX8) (N := 36) hx hb hts hinX8 hown hK.1 hP 0 rfl rfl 19 (by decide) (hts _ (List.mem_of_getElem? (i := 1) rfl)) (fun _ h9 => h9) rfl dX8_mayWake_64 ?_
        refine za_ld hx hb hK hP 3 0 rfl rfl (by omega) (by omega) dX8_mayWake_67 ?_
        refine zi_add hx hb dX8_mayWake_68 ?_
        refine va_put (D := (dC, dI)) (ci := 8) (v := .int (iI (late + (la st)))) (ty := .int) (C := RX8) (T := TX8) (N := 36) hx hb hts hinX8 tyX8 tyX8_ok nmX8 hown hK.1 hP hD hS 0 rfl rfl 27 (by decide) (hts _ (List.mem_of_getElem? (i := 5) rfl)) (fun _ h9 => h9) rfl (by decide +kernel) rfl rfl (Nat.le_of_ble_eq_true rfl) dX8_mayWake_69 (fun H locs hP hD hS => ?_)
        have hP : va_P (dC, dI) vwCl (wM cI cJ cZ q pw co la vo nC par div dee use mrun nT due lat wk nE tk ld rule now st asl idn idl (sp + ((pw 0) * (la st))) (pe + ((pw 0) * (la st))) tin slp (late + (la st)) srv hv av bd sh mL mB thr) H := hP
        have hD : va_D A (wM cI cJ cZ q pw co la vo nC par div dee use mrun nT due lat wk nE tk ld rule now st asl idn idl (sp + ((pw 0) * (la st))) (pe + ((pw 0) * (la st))) tin slp (late + (la st)) srv hv av bd sh mL mB thr) := hD
        refine lv_aload_n hx hb dX8_mayWake_72 rfl (lv_at hl 0 rfl) ?_
        refine zc_v (va_runV (As := []) (rest := []) ⟨hx, hb, hml, hown, hts⟩ (kX8_wakes l dC dI cI cJ cZ q pw co la vo nC par div dee use mrun nT due lat wk nE tk ld rule now st asl idn idl (sp + ((pw 0) * (la st))) (pe + ((pw 0) * (la st))) tin slp (late + (la st)) srv hv av bd sh mL mB thr (by first | assumption | omega | exact b2i_01 _) H.size) (cwV 0 hts gX8_mayWake_X8_wakes rfl rfl rfl (by decide +kernel) ⟨Nat.le_of_ble_eq_true rfl, Nat.le_of_ble_eq_true rfl⟩) (zpV hK hP hD [0, 1, 2, 3, 4, 5, 6, 7, 8, 9, 10, 11, 12, 13, 14, 15, 16, 17, 18, 19] rfl rfl 0 rfl rfl) rfl rfl hl.1 rfl (lv_room (Nat.le_of_ble_eq_true rfl)) dX8_mayWake_73 ⟨Nat.le_of_ble_eq_true rfl, Nat.le_of_ble_eq_true rfl⟩) hP hD hS hA [0, 1, 2, 3, 4, 5, 6, 7, 8, 9, 10, 11, 12, 13, 14, 15, 16, 17, 18, 19] [] rfl rfl rfl (by decide) (fun u_8 H locs r_7 hP hD hS => ?_)
        have hP : va_P (dC, dI) vwCl (wM cI cJ cZ q pw co la vo nC par div dee use mrun nT due lat wk nE tk ld rule now 0 asl (idn + 1) (uZ idl (idn % 4) (now - asl)) (sp + ((pw 0) * (la st))) (pe + ((pw 0) * (la st))) tin slp (late + (la st)) srv hv av bd sh mL mB thr) H := hP
        have hD : va_D A (wM cI cJ cZ q pw co la vo nC par div dee use mrun nT due lat wk nE tk ld rule now 0 asl (idn + 1) (uZ idl (idn % 4) (now - asl)) (sp + ((pw 0) * (la st))) (pe + ((pw 0) * (la st))) tin slp (late + (la st)) srv hv av bd sh mL mB thr) := hD
        subst hQ
        exact zret_v (W1 := fun u9 : Int × Int × Int × Int × (Int → Int) × Int => wM cI cJ cZ q pw co la vo nC par div dee use mrun nT due lat wk nE tk ld rule now (u9.1) asl (u9.2.2.2.2.2) (u9.2.2.2.2.1) (u9.2.1) (u9.2.2.1) tin slp (u9.2.2.2.1) srv hv av bd sh mL mB thr) (0, sp + ((pw 0) * (la st)), pe + ((pw 0) * (la st)), late + (la st), uZ idl (idn % 4) (now - asl), idn + 1) hx hb hr hP hD hS hlocks dX8_mayWake_76 (by unfold w1F wkF; first | (rw [if_pos (by omega)]; done) | (rw [if_neg (by omega), if_pos (by omega)]; done) | (rw [if_neg (by omega), if_neg (by omega), if_pos (by assumption)]; done) | (rw [if_neg (by omega), if_neg (by omega), if_neg (by assumption)]; done))
    · skip
      refine lv_aload_n hx hb dX8_mayWake_19 rfl (lv_at hl 0 rfl) ?_
      refine zc_v (va_runV (As := []) (rest := []) ⟨hx, hb, hml, hown, hts⟩ (kX8_wakes l dC dI cI cJ cZ q pw co la vo nC par div dee use mrun nT due lat wk nE tk ld rule now st asl idn idl sp pe tin slp late srv hv av bd sh mL mB thr (by first | assumption | omega | exact b2i_01 _) s.heap.size) (cwV 0 hts gX8_mayWake_X8_wakes rfl rfl rfl (by decide +kernel) ⟨Nat.le_of_ble_eq_true rfl, Nat.le_of_ble_eq_true rfl⟩) (zpV hK hP hD [0, 1, 2, 3, 4, 5, 6, 7, 8, 9, 10, 11, 12, 13, 14, 15, 16, 17, 18, 19] rfl rfl 0 rfl rfl) rfl rfl hl.1 rfl (lv_room (Nat.le_of_ble_eq_true rfl)) dX8_mayWake_20 ⟨Nat.le_of_ble_eq_true rfl, Nat.le_of_ble_eq_true rfl⟩) hP hD hS hA [0, 1, 2, 3, 4, 5, 6, 7, 8, 9, 10, 11, 12, 13, 14, 15, 16, 17, 18, 19] [] rfl rfl rfl (by decide) (fun u_11 H locs r_10 hP hD hS => ?_)
      have hP : va_P (dC, dI) vwCl (wM cI cJ cZ q pw co la vo nC par div dee use mrun nT due lat wk nE tk ld rule now 0 asl (idn + 1) (uZ idl (idn % 4) (now - asl)) sp pe tin slp late srv hv av bd sh mL mB thr) H := hP
      have hD : va_D A (wM cI cJ cZ q pw co la vo nC par div dee use mrun nT due lat wk nE tk ld rule now 0 asl (idn + 1) (uZ idl (idn % 4) (now - asl)) sp pe tin slp late srv hv av bd sh mL mB thr) := hD
      refine lv_goto (tgt := 76) hx hb dX8_mayWake_23 (by decide) ?_
      subst hQ
      exact zret_v (W1 := fun u9 : Int × Int × Int × Int × (Int → Int) × Int => wM cI cJ cZ q pw co la vo nC par div dee use mrun nT due lat wk nE tk ld rule now (u9.1) asl (u9.2.2.2.2.2) (u9.2.2.2.2.1) (u9.2.1) (u9.2.2.1) tin slp (u9.2.2.2.1) srv hv av bd sh mL mB thr) (0, sp, pe, late, uZ idl (idn % 4) (now - asl), idn + 1) hx hb hr hP hD hS hlocks dX8_mayWake_76 (by unfold w1F wkF; first | (rw [if_pos (by omega)]; done) | (rw [if_neg (by omega), if_pos (by omega)]; done) | (rw [if_neg (by omega), if_neg (by omega), if_pos (by assumption)]; done) | (rw [if_neg (by omega), if_neg (by omega), if_neg (by assumption)]; done))
  · skip
    subst hQ
    exact zret_v (W1 := fun u9 : Int × Int × Int × Int × (Int → Int) × Int => wM cI cJ cZ q pw co la vo nC par div dee use mrun nT due lat wk nE tk ld rule now (u9.1) asl (u9.2.2.2.2.2) (u9.2.2.2.2.1) (u9.2.1) (u9.2.2.1) tin slp (u9.2.2.2.1) srv hv av bd sh mL mB thr) (st, sp, pe, late, idl, idn) hx hb hr hP hD hS hlocks dX8_mayWake_7 (by unfold w1F wkF; first | (rw [if_pos (by omega)]; done) | (rw [if_neg (by omega), if_pos (by omega)]; done) | (rw [if_neg (by omega), if_neg (by omega), if_pos (by assumption)]; done) | (rw [if_neg (by omega), if_neg (by omega), if_neg (by assumption)]; done))
def rmX8_serves : Room := { frames := 1, cells := 0, slots := 0, locals := 22 }
set_option maxRecDepth 100000 in
set_option maxHeartbeats 4000000 in
theorem kX8_serves (l : Launch) (dC : Nat → ClassId) (dI : Nat → Nat → Nat) (cI cJ cZ : ClassId) (q : Nat → Nat)  (pw : Int → Int) (co : Int → Int) (la : Int → Int) (vo : Int → Int) (nC : Int) (par : Int → Int) (div : Int → Int) (dee : Int → Int) (use : Int → Int) (mrun : Int → Int) (nT : Int) (due : Int → Int) (lat : Int → Int) (wk : Int → Int) (nE : Int) (tk : Int → Int) (ld : Int → Int) (rule : Int) (now : Int) (st : Int) (asl : Int) (idn : Int) (idl : Int → Int) (sp : Int) (pe : Int) (tin : Int → Int) (slp : Int) (late : Int) (srv : Int) (hv : Int → Int) (av : Int) (bd : Int) (sh : Int) (mL : Int → Int) (mB : Int → Int) (thr : Int) (w : Int) (hw : 0 ≤ w ∧ w ≤ 50) (hpw : rgZ pw 4 1000) : zMv l yX8_serves wsX8_serves rmX8_serves (dC, dI) (zT cI cJ cZ) (wM cI cJ cZ q pw co la vo nC par div dee use mrun nT due lat wk nE tk ld rule now st asl idn idl sp pe tin slp late srv hv av bd sh mL mB thr) [.ref (q 0), .int (iI w)] (fun (_ : Unit) => True) (fun _ : Unit => wM cI cJ cZ q pw co la vo nC par div dee use mrun nT due lat wk nE tk ld rule now st asl idn idl (sp + w * pw 0) (pe + w * pw 0) tin slp late (srv + w) hv av bd sh mL mB thr) 0 0 := by
  refine zent_v (cc := cX8_serves) (maxL := 2) (ret := none) (by decide +kernel) rfl (Nat.le_of_ble_eq_true rfl) ?_
  intro p e s m below meth c A ls hE hP hK hA hD hS hl
  obtain ⟨hx, hb, hr, hml, hown, hts, hlocks, hmn⟩ := hE
  have hinX8 : ∀ w ∈ u_ws RX8 TX8 36, w ∈ wsX8_serves := by decide +kernel
  have hl : lv_has ls 2 [(0, .ref (q 0)), (1, .int (iI w))] := hl
  refine z_gen (fun Q hQ => ?_)
  have hm9 := mul_r hw (hpw 0 (by omega) (by omega))
  refine lv_aload_n hx hb dX8_serves_0 rfl (lv_at hl 0 rfl) ?_
  refine lv_dup hx hb dX8_serves_1 rfl ?_
  refine va_get (D := (dC, dI)) (ci := 8) (v := .int (iI srv)) (C := RX8) (T := TX8) (N := 36) hx hb hts hinX8 hown hK.1 hP 0 rfl rfl 28 (by decide) (hts _ (List.mem_of_getElem? (i := 1) rfl)) (fun _ h9 => h9) rfl dX8_serves_2 ?_
  refine lv_iload_n hx hb dX8_serves_5 rfl (lv_at hl 1 rfl) ?_
  refine zi_add hx hb dX8_serves_6 ?_
  refine va_put (D := (dC, dI)) (ci := 8) (v := .int (iI (srv + w))) (ty := .int) (C := RX8) (T := TX8) (N := 36) hx hb hts hinX8 tyX8 tyX8_ok nmX8 hown hK.1 hP hD hS 0 rfl rfl 28 (by decide) (hts _ (List.mem_of_getElem? (i := 1) rfl)) (fun _ h9 => h9) rfl (by decide +kernel) rfl rfl (Nat.le_of_ble_eq_true rfl) dX8_serves_7 (fun H locs hP hD hS => ?_)
  have hP : va_P (dC, dI) vwCl (wM cI cJ cZ q pw co la vo nC par div dee use mrun nT due lat wk nE tk ld rule now st asl idn idl sp pe tin slp late (srv + w) hv av bd sh mL mB thr) H := hP
  have hD : va_D A (wM cI cJ cZ q pw co la vo nC par div dee use mrun nT due lat wk nE tk ld rule now st asl idn idl sp pe tin slp late (srv + w) hv av bd sh mL mB thr) := hD
  refine lv_aload_n hx hb dX8_serves_10 rfl (lv_at hl 0 rfl) ?_
  refine lv_iload_n hx hb dX8_serves_11 rfl (lv_at hl 1 rfl) ?_
  refine lv_aload_n hx hb dX8_serves_12 rfl (lv_at hl 0 rfl) ?_
  refine va_get (D := (dC, dI)) (ci := 8) (v := .ref (q 1)) (C := RX8) (T := TX8) (N := 36) hx hb hts hinX8 hown hK.1 hP 0 rfl rfl 0 (by decide) (hts _ (List.mem_of_getElem? (i := 2) rfl)) (fun _ h9 => h9) rfl dX8_serves_13 ?_
  refine lv_iconst (v := iI 0) hx hb dX8_serves_16 rfl ?_
  refine za_ld hx hb hK hP 1 0 rfl rfl (by omega) (by omega) dX8_serves_17 ?_
  refine zi_mul hx hb dX8_serves_18 ?_
  refine zi_l hx hb (by omega) dX8_serves_19 ?_
  refine zc_v (va_runV (As := [.long (lI (w * (pw 0)))]) (rest := []) ⟨hx, hb, hml, hown, hts⟩ (kX8_spends l dC dI cI cJ cZ q pw co la vo nC par div dee use mrun nT due lat wk nE tk ld rule now st asl idn idl sp pe tin slp late (srv + w) hv av bd sh mL mB thr (w * (pw 0)) H.size) (cwV 1 hts gX8_serves_X8_spends rfl rfl rfl (by decide +kernel) ⟨Nat.le_of_ble_eq_true rfl, Nat.le_of_ble_eq_true rfl⟩) (zpV hK hP hD [0, 1, 2, 3, 4, 5, 6, 7, 8, 9, 10, 11, 12, 13, 14, 15, 16, 17, 18, 19] rfl rfl 0 rfl rfl) rfl rfl hl.1 rfl (lv_room (Nat.le_of_ble_eq_true rfl)) dX8_serves_20 ⟨Nat.le_of_ble_eq_true rfl, Nat.le_of_ble_eq_true rfl⟩) hP hD hS hA [0, 1, 2, 3, 4, 5, 6, 7, 8, 9, 10, 11, 12, 13, 14, 15, 16, 17, 18, 19] [] rfl rfl rfl (by decide) (fun u_2 H locs r_1 hP hD hS => ?_)
  have hP : va_P (dC, dI) vwCl (wM cI cJ cZ q pw co la vo nC par div dee use mrun nT due lat wk nE tk ld rule now st asl idn idl (sp + (w * (pw 0))) (pe + (w * (pw 0))) tin slp late (srv + w) hv av bd sh mL mB thr) H := hP
  have hD : va_D A (wM cI cJ cZ q pw co la vo nC par div dee use mrun nT due lat wk nE tk ld rule now st asl idn idl (sp + (w * (pw 0))) (pe + (w * (pw 0))) tin slp late (srv + w) hv av bd sh mL mB thr) := hD
  subst hQ
  have w_4 : (sp + w * pw 0) = (sp + (w * (pw 0))) := by trivial
  have w_5 : (pe + w * pw 0) = (pe + (w * (pw 0))) := by trivial
  have hP : va_P (dC, dI) vwCl (wM cI cJ cZ q pw co la vo nC par div dee use mrun nT due lat wk nE tk ld rule now st asl idn idl (sp + w * pw 0) (pe + w * pw 0) tin slp late (srv + w) hv av bd sh mL mB thr) H := by rw [w_4, w_5]; exact hP
  have hD : va_D A (wM cI cJ cZ q pw co la vo nC par div dee use mrun nT due lat wk nE tk ld rule now st asl idn idl (sp + w * pw 0) (pe + w * pw 0) tin slp late (srv + w) hv av bd sh mL mB thr) := by rw [w_4, w_5]; exact hD
  exact zret_v (W1 := fun _ : Unit => wM cI cJ cZ q pw co la vo nC par div dee use mrun nT due lat wk nE tk ld rule now st asl idn idl (sp + w * pw 0) (pe + w * pw 0) tin slp late (srv + w) hv av bd sh mL mB thr) () hx hb hr hP hD hS hlocks dX8_serves_23 (by trivial)
def rmX8_servesAll : Room := { frames := 2, cells := 0, slots := 0, locals := 43 }
set_option maxRecDepth 100000 in
set_option maxHeartbeats 4000000 in
theorem kX8_servesAll (l : Launch) (dC : Nat → ClassId) (dI : Nat → Nat → Nat) (cI cJ cZ : ClassId) (q : Nat → Nat)  (pw : Int → Int) (co : Int → Int) (la : Int → Int) (vo : Int → Int) (nC : Int) (par : Int → Int) (div : Int → Int) (dee : Int → Int) (use : Int → Int) (mrun : Int → Int) (nT : Int) (due : Int → Int) (lat : Int → Int) (wk : Int → Int) (nE : Int) (tk : Int → Int) (ld : Int → Int) (rule : Int) (now : Int) (st : Int) (asl : Int) (idn : Int) (idl : Int → Int) (sp : Int) (pe : Int) (tin : Int → Int) (slp : Int) (late : Int) (srv : Int) (hv : Int → Int) (av : Int) (bd : Int) (sh : Int) (mL : Int → Int) (mB : Int → Int) (thr : Int) (hpw : rgZ pw 4 1000) (hnow : 0 ≤ now ∧ now ≤ 200000) (hnT : 0 ≤ nT ∧ nT ≤ 12) (htd : rgZ due 12 1000000) (htl : rgZ lat 12 1000000) (htw : rgZ wk 12 50) (hnE : 0 ≤ nE ∧ nE ≤ 12) (hed : rgZ tk 12 1000000) (hew : rgZ ld 12 50) (hev : ∀ k : Int, 0 ≤ k → k < nE → now ≤ tk k) : zMv l yX8_servesAll wsX8_servesAll rmX8_servesAll (dC, dI) (zT cI cJ cZ) (wM cI cJ cZ q pw co la vo nC par div dee use mrun nT due lat wk nE tk ld rule now st asl idn idl sp pe tin slp late srv hv av bd sh mL mB thr) [.ref (q 0)] (fun (_ : Unit) => True) (fun _ : Unit => wM cI cJ cZ q pw co la vo nC par div dee use mrun ((tdZ now due lat wk nT).2.1) ((tdZ now due lat wk nT).2.2.1) ((tdZ now due lat wk nT).2.2.2.1) ((tdZ now due lat wk nT).2.2.2.2) ((teZ now tk ld nE).2.1) ((teZ now tk ld nE).2.2.1) ((teZ now tk ld nE).2.2.2) rule now st asl idn idl (sp + ((teZ now tk ld nE).1 + (tdZ now due lat wk nT).1) * pw 0) (pe + ((teZ now tk ld nE).1 + (tdZ now due lat wk nT).1) * pw 0) tin slp late (srv + ((teZ now tk ld nE).1 + (tdZ now due lat wk nT).1)) hv av bd sh mL mB thr) 0 0 := by
  refine zent_v (cc := cX8_servesAll) (maxL := 3) (ret := none) (by decide +kernel) rfl (Nat.le_of_ble_eq_true rfl) ?_
  intro p e s m below meth c A ls hE hP hK hA hD hS hl
  obtain ⟨hx, hb, hr, hml, hown, hts, hlocks, hmn⟩ := hE
  have hinX8 : ∀ w ∈ u_ws RX8 TX8 36, w ∈ wsX8_servesAll := by decide +kernel
  have hl : lv_has ls 3 [(0, .ref (q 0))] := hl
  refine z_gen (fun Q hQ => ?_)
  refine lv_iconst (v := iI 0) hx hb dX8_servesAll_0 rfl ?_
  refine lv_istore_n (lv' := [(1, .int (iI 0)), (0, .ref (q 0))]) hx hb dX8_servesAll_1 rfl hl (by decide) rfl (fun ls hl => ?_)
  refine lv_iconst (v := iI 0) hx hb dX8_servesAll_2 rfl ?_
  refine lv_istore_n (lv' := [(2, .int (iI 0)), (1, .int (iI 0)), (0, .ref (q 0))]) hx hb dX8_servesAll_3 rfl hl (by decide) rfl (fun ls hl => ?_)
  have L4 : ∀ (fuel : Nat) (k : Int), (0 ≤ k ∧ k ≤ nE) → ((nE - k).toNat) < fuel → ∀ (H : Heap) (locs : List Loc), va_P (dC, dI) vwCl (wM cI cJ cZ q pw co la vo nC par div dee use mrun nT due lat wk nE ((teZ now tk ld k).2.2.1) ((teZ now tk ld k).2.2.2) rule now st asl idn idl (sp + (teZ now tk ld k).1 * pw 0) (pe + (teZ now tk ld k).1 * pw 0) tin slp late (srv + (teZ now tk ld k).1) hv av bd sh mL mB thr) H → va_D A (wM cI cJ cZ q pw co la vo nC par div dee use mrun nT due lat wk nE ((teZ now tk ld k).2.2.1) ((teZ now tk ld k).2.2.2) rule now st asl idn idl (sp + (teZ now tk ld k).1 * pw 0) (pe + (teZ now tk ld k).1 * pw 0) tin slp late (srv + (teZ now tk ld k).1) hv av bd sh mL mB thr) → va_S A s.heap H locs → ∀ ls : Array Slot, lv_has ls 3 [(2, .int (iI k)), (1, .int (iI ((teZ now tk ld k).2.1))), (0, .ref (q 0))] → W p l e rmX8_servesAll s m ([.ref (q 0)] : List Value).toArray below meth c H locs 0 0 Q (F0 m 4 ls []) := by
    intro fuel
    induction fuel with
    | zero =>
      intro k hk hmeas H locs hP hD hS ls hl
      exact absurd hmeas (by omega)
    | succ fuel ih =>
      intro k hk hmeas H locs hP hD hS ls hl
      have hr9 := te_r (t := now) (k := k) hed hew (by omega)
      have hlo9 := te_lo (t := now) (wk := ld) (k := k) hev hk
      refine lv_iload_n hx hb dX8_servesAll_4 rfl (lv_at hl 0 rfl) ?_
      refine lv_aload_n hx hb dX8_servesAll_5 rfl (lv_at hl 2 rfl) ?_
      refine va_get (D := (dC, dI)) (ci := 8) (v := .int (iI nE)) (C := RX8) (T := TX8) (N := 36) hx hb hts hinX8 hown hK.1 hP 0 rfl rfl 14 (by decide) (hts _ (List.mem_of_getElem? (i := 1) rfl)) (fun _ h9 => h9) rfl dX8_servesAll_6 ?_
      refine zi_cge (tgt := 71) hx hb (by omega) (by omega) dX8_servesAll_9 (by decide) (fun c_1 => ?_) (fun c_1 => ?_)
      · skip
        refine lv_aload_n hx hb dX8_servesAll_71 rfl (lv_at hl 2 rfl) ?_
        refine lv_iload_n hx hb dX8_servesAll_72 rfl (lv_at hl 1 rfl) ?_
        refine va_put (D := (dC, dI)) (ci := 8) (v := .int (iI ((teZ now tk ld k).2.1))) (ty := .int) (C := RX8) (T := TX8) (N := 36) hx hb hts hinX8 tyX8 tyX8_ok nmX8 hown hK.1 hP hD hS 0 rfl rfl 14 (by decide) (hts _ (List.mem_of_getElem? (i := 1) rfl)) (fun _ h9 => h9) rfl (by decide +kernel) rfl rfl (Nat.le_of_ble_eq_true rfl) dX8_servesAll_73 (fun H locs hP hD hS => ?_)
        have hP : va_P (dC, dI) vwCl (wM cI cJ cZ q pw co la vo nC par div dee use mrun nT due lat wk ((teZ now tk ld k).2.1) ((teZ now tk ld k).2.2.1) ((teZ now tk ld k).2.2.2) rule now st asl idn idl (sp + (teZ now tk ld k).1 * pw 0) (pe + (teZ now tk ld k).1 * pw 0) tin slp late (srv + (teZ now tk ld k).1) hv av bd sh mL mB thr) H := hP
        have hD : va_D A (wM cI cJ cZ q pw co la vo nC par div dee use mrun nT due lat wk ((teZ now tk ld k).2.1) ((teZ now tk ld k).2.2.1) ((teZ now tk ld k).2.2.2) rule now st asl idn idl (sp + (teZ now tk ld k).1 * pw 0) (pe + (teZ now tk ld k).1 * pw 0) tin slp late (srv + (teZ now tk ld k).1) hv av bd sh mL mB thr) := hD
        refine lv_iconst (v := iI 0) hx hb dX8_servesAll_76 rfl ?_
        refine lv_istore_n (lv' := [(1, .int (iI 0)), (2, .int (iI k)), (0, .ref (q 0))]) hx hb dX8_servesAll_77 rfl hl (by decide) rfl (fun ls hl => ?_)
        refine lv_iconst (v := iI 0) hx hb dX8_servesAll_78 rfl ?_
        refine lv_istore_n (lv' := [(2, .int (iI 0)), (1, .int (iI 0)), (0, .ref (q 0))]) hx hb dX8_servesAll_79 rfl hl (by decide) rfl (fun ls hl => ?_)
        have L80 : ∀ (fuel : Nat) (k2 : Int), (0 ≤ k2 ∧ k2 ≤ nT) → ((nT - k2).toNat) < fuel → ∀ (H : Heap) (locs : List Loc), va_P (dC, dI) vwCl (wM cI cJ cZ q pw co la vo nC par div dee use mrun nT ((tdZ now due lat wk k2).2.2.1) ((tdZ now due lat wk k2).2.2.2.1) ((tdZ now due lat wk k2).2.2.2.2) ((teZ now tk ld k).2.1) ((teZ now tk ld k).2.2.1) ((teZ now tk ld k).2.2.2) rule now st asl idn idl (sp + (teZ now tk ld k).1 * pw 0 + (tdZ now due lat wk k2).1 * pw 0) (pe + (teZ now tk ld k).1 * pw 0 + (tdZ now due lat wk k2).1 * pw 0) tin slp late (srv + (teZ now tk ld k).1 + (tdZ now due lat wk k2).1) hv av bd sh mL mB thr) H → va_D A (wM cI cJ cZ q pw co la vo nC par div dee use mrun nT ((tdZ now due lat wk k2).2.2.1) ((tdZ now due lat wk k2).2.2.2.1) ((tdZ now due lat wk k2).2.2.2.2) ((teZ now tk ld k).2.1) ((teZ now tk ld k).2.2.1) ((teZ now tk ld k).2.2.2) rule now st asl idn idl (sp + (teZ now tk ld k).1 * pw 0 + (tdZ now due lat wk k2).1 * pw 0) (pe + (teZ now tk ld k).1 * pw 0 + (tdZ now due lat wk k2).1 * pw 0) tin slp late (srv + (teZ now tk ld k).1 + (tdZ now due lat wk k2).1) hv av bd sh mL mB thr) → va_S A s.heap H locs → ∀ ls : Array Slot, lv_has ls 3 [(2, .int (iI k2)), (1, .int (iI ((tdZ now due lat wk k2).2.1))), (0, .ref (q 0))] → W p l e rmX8_servesAll s m ([.ref (q 0)] : List Value).toArray below meth c H locs 0 0 Q (F0 m 80 ls []) := by
          intro fuel
          induction fuel with
          | zero =>
            intro k2 hk2 hmeas H locs hP hD hS ls hl
            exact absurd hmeas (by omega)
          | succ fuel ih =>
            intro k2 hk2 hmeas H locs hP hD hS ls hl
            have hs9 := td_r (t := now) (k := k2) htd htl htw (by omega)
            refine lv_iload_n hx hb dX8_servesAll_80 rfl (lv_at hl 0 rfl) ?_
            refine lv_aload_n hx hb dX8_servesAll_81 rfl (lv_at hl 2 rfl) ?_
            refine va_get (D := (dC, dI)) (ci := 8) (v := .int (iI nT)) (C := RX8) (T := TX8) (N := 36) hx hb hts hinX8 hown hK.1 hP 0 rfl rfl 10 (by decide) (hts _ (List.mem_of_getElem? (i := 5) rfl)) (fun _ h9 => h9) rfl dX8_servesAll_82 ?_
            refine zi_cge (tgt := 159) hx hb (by omega) (by omega) dX8_servesAll_85 (by decide) (fun c_2 => ?_) (fun c_2 => ?_)
            · skip
              refine lv_aload_n hx hb dX8_servesAll_159 rfl (lv_at hl 2 rfl) ?_
              refine lv_iload_n hx hb dX8_servesAll_160 rfl (lv_at hl 1 rfl) ?_
              refine va_put (D := (dC, dI)) (ci := 8) (v := .int (iI ((tdZ now due lat wk k2).2.1))) (ty := .int) (C := RX8) (T := TX8) (N := 36) hx hb hts hinX8 tyX8 tyX8_ok nmX8 hown hK.1 hP hD hS 0 rfl rfl 10 (by decide) (hts _ (List.mem_of_getElem? (i := 5) rfl)) (fun _ h9 => h9) rfl (by decide +kernel) rfl rfl (Nat.le_of_ble_eq_true rfl) dX8_servesAll_161 (fun H locs hP hD hS => ?_)
              have hP : va_P (dC, dI) vwCl (wM cI cJ cZ q pw co la vo nC par div dee use mrun ((tdZ now due lat wk k2).2.1) ((tdZ now due lat wk k2).2.2.1) ((tdZ now due lat wk k2).2.2.2.1) ((tdZ now due lat wk k2).2.2.2.2) ((teZ now tk ld k).2.1) ((teZ now tk ld k).2.2.1) ((teZ now tk ld k).2.2.2) rule now st asl idn idl (sp + (teZ now tk ld k).1 * pw 0 + (tdZ now due lat wk k2).1 * pw 0) (pe + (teZ now tk ld k).1 * pw 0 + (tdZ now due lat wk k2).1 * pw 0) tin slp late (srv + (teZ now tk ld k).1 + (tdZ now due lat wk k2).1) hv av bd sh mL mB thr) H := hP
              have hD : va_D A (wM cI cJ cZ q pw co la vo nC par div dee use mrun ((tdZ now due lat wk k2).2.1) ((tdZ now due lat wk k2).2.2.1) ((tdZ now due lat wk k2).2.2.2.1) ((tdZ now due lat wk k2).2.2.2.2) ((teZ now tk ld k).2.1) ((teZ now tk ld k).2.2.1) ((teZ now tk ld k).2.2.2) rule now st asl idn idl (sp + (teZ now tk ld k).1 * pw 0 + (tdZ now due lat wk k2).1 * pw 0) (pe + (teZ now tk ld k).1 * pw 0 + (tdZ now due lat wk k2).1 * pw 0) tin slp late (srv + (teZ now tk ld k).1 + (tdZ now due lat wk k2).1) hv av bd sh mL mB thr) := hD
              subst hQ
              have w_3 : ((tdZ now due lat wk nT).2.1) = ((tdZ now due lat wk k2).2.1) := by (obtain rfl : k = nE := by omega); (obtain rfl : k2 = nT := by omega); first | rfl | (rw [Int.add_mul]; omega) | omega
              have w_4 : ((tdZ now due lat wk nT).2.2.1) = ((tdZ now due lat wk k2).2.2.1) := by (obtain rfl : k = nE := by omega); (obtain rfl : k2 = nT := by omega); first | rfl | (rw [Int.add_mul]; omega) | omega
              have w_5 : ((tdZ now due lat wk nT).2.2.2.1) = ((tdZ now due lat wk k2).2.2.2.1) := by (obtain rfl : k = nE := by omega); (obtain rfl : k2 = nT := by omega); first | rfl | (rw [Int.add_mul]; omega) | omega
              have w_6 : ((tdZ now due lat wk nT).2.2.2.2) = ((tdZ now due lat wk k2).2.2.2.2) := by (obtain rfl : k = nE := by omega); (obtain rfl : k2 = nT := by omega); first | rfl | (rw [Int.add_mul]; omega) | omega
              have w_7 : ((teZ now tk ld nE).2.1) = ((teZ now tk ld k).2.1) := by (obtain rfl : k = nE := by omega); (obtain rfl : k2 = nT := by omega); first | rfl | (rw [Int.add_mul]; omega) | omega
              have w_8 : ((teZ now tk ld nE).2.2.1) = ((teZ now tk ld k).2.2.1) := by (obtain rfl : k = nE := by omega); (obtain rfl : k2 = nT := by omega); first | rfl | (rw [Int.add_mul]; omega) | omega
              have w_9 : ((teZ now tk ld nE).2.2.2) = ((teZ now tk ld k).2.2.2) := by (obtain rfl : k = nE := by omega); (obtain rfl : k2 = nT := by omega); first | rfl | (rw [Int.add_mul]; omega) | omega
              have w_10 : (sp + ((teZ now tk ld nE).1 + (tdZ now due lat wk nT).1) * pw 0) = (sp + (teZ now tk ld k).1 * pw 0 + (tdZ now due lat wk k2).1 * pw 0) := by (obtain rfl : k = nE := by omega); (obtain rfl : k2 = nT := by omega); first | rfl | (rw [Int.add_mul]; omega) | omega
              have w_11 : (pe + ((teZ now tk ld nE).1 + (tdZ now due lat wk nT).1) * pw 0) = (pe + (teZ now tk ld k).1 * pw 0 + (tdZ now due lat wk k2).1 * pw 0) := by (obtain rfl : k = nE := by omega); (obtain rfl : k2 = nT := by omega); first | rfl | (rw [Int.add_mul]; omega) | omega
              have w_12 : (srv + ((teZ now tk ld nE).1 + (tdZ now due lat wk nT).1)) = (srv + (teZ now tk ld k).1 + (tdZ now due lat wk k2).1) := by (obtain rfl : k = nE := by omega); (obtain rfl : k2 = nT := by omega); first | rfl | (rw [Int.add_mul]; omega) | omega
              have hP : va_P (dC, dI) vwCl (wM cI cJ cZ q pw co la vo nC par div dee use mrun ((tdZ now due lat wk nT).2.1) ((tdZ now due lat wk nT).2.2.1) ((tdZ now due lat wk nT).2.2.2.1) ((tdZ now due lat wk nT).2.2.2.2) ((teZ now tk ld nE).2.1) ((teZ now tk ld nE).2.2.1) ((teZ now tk ld nE).2.2.2) rule now st asl idn idl (sp + ((teZ now tk ld nE).1 + (tdZ now due lat wk nT).1) * pw 0) (pe + ((teZ now tk ld nE).1 + (tdZ now due lat wk nT).1) * pw 0) tin slp late (srv + ((teZ now tk ld nE).1 + (tdZ now due lat wk nT).1)) hv av bd sh mL mB thr) H := by rw [w_3, w_4, w_5, w_6, w_7, w_8, w_9, w_10, w_11, w_12]; exact hP
              have hD : va_D A (wM cI cJ cZ q pw co la vo nC par div dee use mrun ((tdZ now due lat wk nT).2.1) ((tdZ now due lat wk nT).2.2.1) ((tdZ now due lat wk nT).2.2.2.1) ((tdZ now due lat wk nT).2.2.2.2) ((teZ now tk ld nE).2.1) ((teZ now tk ld nE).2.2.1) ((teZ now tk ld nE).2.2.2) rule now st asl idn idl (sp + ((teZ now tk ld nE).1 + (tdZ now due lat wk nT).1) * pw 0) (pe + ((teZ now tk ld nE).1 + (tdZ now due lat wk nT).1) * pw 0) tin slp late (srv + ((teZ now tk ld nE).1 + (tdZ now due lat wk nT).1)) hv av bd sh mL mB thr) := by rw [w_3, w_4, w_5, w_6, w_7, w_8, w_9, w_10, w_11, w_12]; exact hD
              exact zret_v (W1 := fun _ : Unit => wM cI cJ cZ q pw co la vo nC par div dee use mrun ((tdZ now due lat wk nT).2.1) ((tdZ now due lat wk nT).2.2.1) ((tdZ now due lat wk nT).2.2.2.1) ((tdZ now due lat wk nT).2.2.2.2) ((teZ now tk ld nE).2.1) ((teZ now tk ld nE).2.2.1) ((teZ now tk ld nE).2.2.2) rule now st asl idn idl (sp + ((teZ now tk ld nE).1 + (tdZ now due lat wk nT).1) * pw 0) (pe + ((teZ now tk ld nE).1 + (tdZ now due lat wk nT).1) * pw 0) tin slp late (srv + ((teZ now tk ld nE).1 + (tdZ now due lat wk nT).1)) hv av bd sh mL mB thr) () hx hb hr hP hD hS hlocks dX8_servesAll_164 (by trivial)
            · skip
              refine lv_aload_n hx hb dX8_servesAll_88 rfl (lv_at hl 2 rfl) ?_
              refine va_get (D := (dC, dI)) (ci := 8) (v := .ref (q 10)) (C := RX8) (T := TX8) (N := 36) hx hb hts hinX8 hown hK.1 hP 0 rfl rfl 11 (by decide) (hts _ (List.mem_of_getElem? (i := 6) rfl)) (fun _ h9 => h9) rfl dX8_servesAll_89 ?_
              refine lv_iload_n hx hb dX8_servesAll_92 rfl (lv_at hl 0 rfl) ?_
              refine za_ld hx hb hK hP 10 0 rfl rfl (by omega) (by omega) dX8_servesAll_93 ?_
              have e_13 := hs9.2.2.1 k2 (by omega) (by omega)
              refine lv_aload_n hx hb dX8_servesAll_94 rfl (lv_at hl 2 rfl) ?_
              refine va_get (D := (dC, dI)) (ci := 8) (v := .int (iI now)) (C := RX8) (T := TX8) (N := 36) hx hb hts hinX8 hown hK.1 hP 0 rfl rfl 18 (by decide) (hts _ (List.mem_of_getElem? (i := 3) rfl)) (fun _ h9 => h9) rfl dX8_servesAll_95 ?_
              refine zi_cgt (tgt := 114) hx hb (by omega) (by omega) dX8_servesAll_98 (by decide) (fun c_14 => ?_) (fun c_14 => ?_)
              · skip
                refine lv_aload_n hx hb dX8_servesAll_114 rfl (lv_at hl 2 rfl) ?_
                refine va_get (D := (dC, dI)) (ci := 8) (v := .ref (q 10)) (C := RX8) (T := TX8) (N := 36) hx hb hts hinX8 hown hK.1 hP 0 rfl rfl 11 (by decide) (hts _ (List.mem_of_getElem? (i := 6) rfl)) (fun _ h9 => h9) rfl dX8_servesAll_115 ?_
                refine lv_iload_n hx hb dX8_servesAll_118 rfl (lv_at hl 1 rfl) ?_
                refine lv_aload_n hx hb dX8_servesAll_119 rfl (lv_at hl 2 rfl) ?_
                refine va_get (D := (dC, dI)) (ci := 8) (v := .ref (q 10)) (C := RX8) (T := TX8) (N := 36) hx hb hts hinX8 hown hK.1 hP 0 rfl rfl 11 (by decide) (hts _ (List.mem_of_getElem? (i := 6) rfl)) (fun _ h9 => h9) rfl dX8_servesAll_120 ?_
                refine lv_iload_n hx hb dX8_servesAll_123 rfl (lv_at hl 0 rfl) ?_
                refine za_ld hx hb hK hP 10 0 rfl rfl (by omega) (by omega) dX8_servesAll_124 ?_
                have e_15 := hs9.2.2.1 k2 (by omega) (by omega)
                refine za_st hx hb hK hP hD hS 10 0 rfl rfl (by omega) (by omega) dX8_servesAll_125 (fun H locs hP hD hS => ?_)
                have hP : va_P (dC, dI) vwCl (wM cI cJ cZ q pw co la vo nC par div dee use mrun nT (uZ ((tdZ now due lat wk k2).2.2.1) ((tdZ now due lat wk k2).2.1) (((tdZ now due lat wk k2).2.2.1) k2)) ((tdZ now due lat wk k2).2.2.2.1) ((tdZ now due lat wk k2).2.2.2.2) ((teZ now tk ld k).2.1) ((teZ now tk ld k).2.2.1) ((teZ now tk ld k).2.2.2) rule now st asl idn idl (sp + (teZ now tk ld k).1 * pw 0 + (tdZ now due lat wk k2).1 * pw 0) (pe + (teZ now tk ld k).1 * pw 0 + (tdZ now due lat wk k2).1 * pw 0) tin slp late (srv + (teZ now tk ld k).1 + (tdZ now due lat wk k2).1) hv av bd sh mL mB thr) H := hP
                have hD : va_D A (wM cI cJ cZ q pw co la vo nC par div dee use mrun nT (uZ ((tdZ now due lat wk k2).2.2.1) ((tdZ now due lat wk k2).2.1) (((tdZ now due lat wk k2).2.2.1) k2)) ((tdZ now due lat wk k2).2.2.2.1) ((tdZ now due lat wk k2).2.2.2.2) ((teZ now tk ld k).2.1) ((teZ now tk ld k).2.2.1) ((teZ now tk ld k).2.2.2) rule now st asl idn idl (sp + (teZ now tk ld k).1 * pw 0 + (tdZ now due lat wk k2).1 * pw 0) (pe + (teZ now tk ld k).1 * pw 0 + (tdZ now due lat wk k2).1 * pw 0) tin slp late (srv + (teZ now tk ld k).1 + (tdZ now due lat wk k2).1) hv av bd sh mL mB thr) := hD
                refine lv_aload_n hx hb dX8_servesAll_126 rfl (lv_at hl 2 rfl) ?_
                refine va_get (D := (dC, dI)) (ci := 8) (v := .ref (q 11)) (C := RX8) (T := TX8) (N := 36) hx hb hts hinX8 hown hK.1 hP 0 rfl rfl 12 (by decide) (hts _ (List.mem_of_getElem? (i := 8) rfl)) (fun _ h9 => h9) rfl dX8_servesAll_127 ?_
                refine lv_iload_n hx hb dX8_servesAll_130 rfl (lv_at hl 1 rfl) ?_
                refine lv_aload_n hx hb dX8_servesAll_131 rfl (lv_at hl 2 rfl) ?_
                refine va_get (D := (dC, dI)) (ci := 8) (v := .ref (q 11)) (C := RX8) (T := TX8) (N := 36) hx hb hts hinX8 hown hK.1 hP 0 rfl rfl 12 (by decide) (hts _ (List.mem_of_getElem? (i := 8) rfl)) (fun _ h9 => h9) rfl dX8_servesAll_132 ?_
                refine lv_iload_n hx hb dX8_servesAll_135 rfl (lv_at hl 0 rfl) ?_
                refine za_ld hx hb hK hP 11 0 rfl rfl (by omega) (by omega) dX8_servesAll_136 ?_
                refine za_st hx hb hK hP hD hS 11 0 rfl rfl (by omega) (by omega) dX8_servesAll_137 (fun H locs hP hD hS => ?_)
                have hP : va_P (dC, dI) vwCl (wM cI cJ cZ q pw co la vo nC par div dee use mrun nT (uZ ((tdZ now due lat wk k2).2.2.1) ((tdZ now due lat wk k2).2.1) (((tdZ now due lat wk k2).2.2.1) k2)) (uZ ((tdZ now due lat wk k2).2.2.2.1) ((tdZ now due lat wk k2).2.1) (((tdZ now due lat wk k2).2.2.2.1) k2)) ((tdZ now due lat wk k2).2.2.2.2) ((teZ now tk ld k).2.1) ((teZ now tk ld k).2.2.1) ((teZ now tk ld k).2.2.2) rule now st asl idn idl (sp + (teZ now tk ld k).1 * pw 0 + (tdZ now due lat wk k2).1 * pw 0) (pe + (teZ now tk ld k).1 * pw 0 + (tdZ now due lat wk k2).1 * pw 0) tin slp late (srv + (teZ now tk ld k).1 + (tdZ now due lat wk k2).1) hv av bd sh mL mB thr) H := hP
                have hD : va_D A (wM cI cJ cZ q pw co la vo nC par div dee use mrun nT (uZ ((tdZ now due lat wk k2).2.2.1) ((tdZ now due lat wk k2).2.1) (((tdZ now due lat wk k2).2.2.1) k2)) (uZ ((tdZ now due lat wk k2).2.2.2.1) ((tdZ now due lat wk k2).2.1) (((tdZ now due lat wk k2).2.2.2.1) k2)) ((tdZ now due lat wk k2).2.2.2.2) ((teZ now tk ld k).2.1) ((teZ now tk ld k).2.2.1) ((teZ now tk ld k).2.2.2) rule now st asl idn idl (sp + (teZ now tk ld k).1 * pw 0 + (tdZ now due lat wk k2).1 * pw 0) (pe + (teZ now tk ld k).1 * pw 0 + (tdZ now due lat wk k2).1 * pw 0) tin slp late (srv + (teZ now tk ld k).1 + (tdZ now due lat wk k2).1) hv av bd sh mL mB thr) := hD
                refine lv_aload_n hx hb dX8_servesAll_138 rfl (lv_at hl 2 rfl) ?_
                refine va_get (D := (dC, dI)) (ci := 8) (v := .ref (q 12)) (C := RX8) (T := TX8) (N := 36) hx hb hts hinX8 hown hK.1 hP 0 rfl rfl 13 (by decide) (hts _ (List.mem_of_getElem? (i := 7) rfl)) (fun _ h9 => h9) rfl dX8_servesAll_139 ?_
                refine lv_iload_n hx hb dX8_servesAll_142 rfl (lv_at hl 1 rfl) ?_
                refine lv_aload_n hx hb dX8_servesAll_143 rfl (lv_at hl 2 rfl) ?_
                refine va_get (D := (dC, dI)) (ci := 8) (v := .ref (q 12)) (C := RX8) (T := TX8) (N := 36) hx hb hts hinX8 hown hK.1 hP 0 rfl rfl 13 (by decide) (hts _ (List.mem_of_getElem? (i := 7) rfl)) (fun _ h9 => h9) rfl dX8_servesAll_144 ?_
                refine lv_iload_n hx hb dX8_servesAll_147 rfl (lv_at hl 0 rfl) ?_
                refine za_ld hx hb hK hP 12 0 rfl rfl (by omega) (by omega) dX8_servesAll_148 ?_
                have e_16 := hs9.2.2.2.2 k2 (by omega) (by omega)
                refine za_st hx hb hK hP hD hS 12 0 rfl rfl (by omega) (by omega) dX8_servesAll_149 (fun H locs hP hD hS => ?_)
                have hP : va_P (dC, dI) vwCl (wM cI cJ cZ q pw co la vo nC par div dee use mrun nT (uZ ((tdZ now due lat wk k2).2.2.1) ((tdZ now due lat wk k2).2.1) (((tdZ now due lat wk k2).2.2.1) k2)) (uZ ((tdZ now due lat wk k2).2.2.2.1) ((tdZ now due lat wk k2).2.1) (((tdZ now due lat wk k2).2.2.2.1) k2)) (uZ ((tdZ now due lat wk k2).2.2.2.2) ((tdZ now due lat wk k2).2.1) (((tdZ now due lat wk k2).2.2.2.2) k2)) ((teZ now tk ld k).2.1) ((teZ now tk ld k).2.2.1) ((teZ now tk ld k).2.2.2) rule now st asl idn idl (sp + (teZ now tk ld k).1 * pw 0 + (tdZ now due lat wk k2).1 * pw 0) (pe + (teZ now tk ld k).1 * pw 0 + (tdZ now due lat wk k2).1 * pw 0) tin slp late (srv + (teZ now tk ld k).1 + (tdZ now due lat wk k2).1) hv av bd sh mL mB thr) H := hP
                have hD : va_D A (wM cI cJ cZ q pw co la vo nC par div dee use mrun nT (uZ ((tdZ now due lat wk k2).2.2.1) ((tdZ now due lat wk k2).2.1) (((tdZ now due lat wk k2).2.2.1) k2)) (uZ ((tdZ now due lat wk k2).2.2.2.1) ((tdZ now due lat wk k2).2.1) (((tdZ now due lat wk k2).2.2.2.1) k2)) (uZ ((tdZ now due lat wk k2).2.2.2.2) ((tdZ now due lat wk k2).2.1) (((tdZ now due lat wk k2).2.2.2.2) k2)) ((teZ now tk ld k).2.1) ((teZ now tk ld k).2.2.1) ((teZ now tk ld k).2.2.2) rule now st asl idn idl (sp + (teZ now tk ld k).1 * pw 0 + (tdZ now due lat wk k2).1 * pw 0) (pe + (teZ now tk ld k).1 * pw 0 + (tdZ now due lat wk k2).1 * pw 0) tin slp late (srv + (teZ now tk ld k).1 + (tdZ now due lat wk k2).1) hv av bd sh mL mB thr) := hD
                refine lv_iinc (v := iI (((tdZ now due lat wk k2).2.1) + 1)) (lv' := [(1, .int (iI (((tdZ now due lat wk k2).2.1) + 1))), (2, .int (iI k2)), (0, .ref (q 0))]) hx hb dX8_servesAll_150 hl (k := 1) rfl (iI_add _ _) (by decide) rfl (fun ls hl => ?_)
                refine lv_iinc (v := iI (k2 + 1)) (lv' := [(2, .int (iI (k2 + 1))), (1, .int (iI (((tdZ now due lat wk k2).2.1) + 1))), (0, .ref (q 0))]) hx hb dX8_servesAll_153 hl (k := 1) rfl (iI_add _ _) (by decide) rfl (fun ls hl => ?_)
                refine lv_goto (tgt := 80) hx hb dX8_servesAll_156 (by decide) ?_
                have w_17 : ((tdZ now due lat wk (k2 + 1)).2.2.1) = (uZ ((tdZ now due lat wk k2).2.2.1) ((tdZ now due lat wk k2).2.1) (((tdZ now due lat wk k2).2.2.1) k2)) := by first | rfl | (rw [td_y (by omega) (by omega)]; first | done | (rw [Int.add_mul]; omega) | omega) | (rw [td_n (by omega) (by omega)]; done)
                have w_18 : ((tdZ now due lat wk (k2 + 1)).2.2.2.1) = (uZ ((tdZ now due lat wk k2).2.2.2.1) ((tdZ now due lat wk k2).2.1) (((tdZ now due lat wk k2).2.2.2.1) k2)) := by first | rfl | (rw [td_y (by omega) (by omega)]; first | done | (rw [Int.add_mul]; omega) | omega) | (rw [td_n (by omega) (by omega)]; done)
                have w_19 : ((tdZ now due lat wk (k2 + 1)).2.2.2.2) = (uZ ((tdZ now due lat wk k2).2.2.2.2) ((tdZ now due lat wk k2).2.1) (((tdZ now due lat wk k2).2.2.2.2) k2)) := by first | rfl | (rw [td_y (by omega) (by omega)]; first | done | (rw [Int.add_mul]; omega) | omega) | (rw [td_n (by omega) (by omega)]; done)
                have w_20 : (sp + (teZ now tk ld k).1 * pw 0 + (tdZ now due lat wk (k2 + 1)).1 * pw 0) = (sp + (teZ now tk ld k).1 * pw 0 + (tdZ now due lat wk k2).1 * pw 0) := by first | rfl | (rw [td_y (by omega) (by omega)]; first | done | (rw [Int.add_mul]; omega) | omega) | (rw [td_n (by omega) (by omega)]; done)
                have w_21 : (pe + (teZ now tk ld k).1 * pw 0 + (tdZ now due lat wk (k2 + 1)).1 * pw 0) = (pe + (teZ now tk ld k).1 * pw 0 + (tdZ now due lat wk k2).1 * pw 0) := by first | rfl | (rw [td_y (by omega) (by omega)]; first | done | (rw [Int.add_mul]; omega) | omega) | (rw [td_n (by omega) (by omega)]; done)
                have w_22 : (srv + (teZ now tk ld k).1 + (tdZ now due lat wk (k2 + 1)).1) = (srv + (teZ now tk ld k).1 + (tdZ now due lat wk k2).1) := by first | rfl | (rw [td_y (by omega) (by omega)]; first | done | (rw [Int.add_mul]; omega) | omega) | (rw [td_n (by omega) (by omega)]; done)
                have hP : va_P (dC, dI) vwCl (wM cI cJ cZ q pw co la vo nC par div dee use mrun nT ((tdZ now due lat wk (k2 + 1)).2.2.1) ((tdZ now due lat wk (k2 + 1)).2.2.2.1) ((tdZ now due lat wk (k2 + 1)).2.2.2.2) ((teZ now tk ld k).2.1) ((teZ now tk ld k).2.2.1) ((teZ now tk ld k).2.2.2) rule now st asl idn idl (sp + (teZ now tk ld k).1 * pw 0 + (tdZ now due lat wk (k2 + 1)).1 * pw 0) (pe + (teZ now tk ld k).1 * pw 0 + (tdZ now due lat wk (k2 + 1)).1 * pw 0) tin slp late (srv + (teZ now tk ld k).1 + (tdZ now due lat wk (k2 + 1)).1) hv av bd sh mL mB thr) H := by rw [w_17, w_18, w_19, w_20, w_21, w_22]; exact hP
                have hD : va_D A (wM cI cJ cZ q pw co la vo nC par div dee use mrun nT ((tdZ now due lat wk (k2 + 1)).2.2.1) ((tdZ now due lat wk (k2 + 1)).2.2.2.1) ((tdZ now due lat wk (k2 + 1)).2.2.2.2) ((teZ now tk ld k).2.1) ((teZ now tk ld k).2.2.1) ((teZ now tk ld k).2.2.2) rule now st asl idn idl (sp + (teZ now tk ld k).1 * pw 0 + (tdZ now due lat wk (k2 + 1)).1 * pw 0) (pe + (teZ now tk ld k).1 * pw 0 + (tdZ now due lat wk (k2 + 1)).1 * pw 0) tin slp late (srv + (teZ now tk ld k).1 + (tdZ now due lat wk (k2 + 1)).1) hv av bd sh mL mB thr) := by rw [w_17, w_18, w_19, w_20, w_21, w_22]; exact hD
                have w_23 : ((tdZ now due lat wk (k2 + 1)).2.1) = (((tdZ now due lat wk k2).2.1) + 1) := by first | rfl | (rw [td_y (by omega) (by omega)]; first | done | (rw [Int.add_mul]; omega) | omega) | (rw [td_n (by omega) (by omega)]; done)
                have hl : lv_has ls 3 [(2, .int (iI (k2 + 1))), (1, .int (iI ((tdZ now due lat wk (k2 + 1)).2.1))), (0, .ref (q 0))] := by rw [w_23]; exact hl
                exact ih (k2 + 1) (by omega) (by omega) H locs hP hD hS ls (lv_sub hl [0, 1, 2] rfl)
              · skip
                refine lv_aload_n hx hb dX8_servesAll_101 rfl (lv_at hl 2 rfl) ?_
                refine lv_aload_n hx hb dX8_servesAll_102 rfl (lv_at hl 2 rfl) ?_
                refine va_get (D := (dC, dI)) (ci := 8) (v := .ref (q 12)) (C := RX8) (T := TX8) (N := 36) hx hb hts hinX8 hown hK.1 hP 0 rfl rfl 13 (by decide) (hts _ (List.mem_of_getElem? (i := 7) rfl)) (fun _ h9 => h9) rfl dX8_servesAll_103 ?_
                refine lv_iload_n hx hb dX8_servesAll_106 rfl (lv_at hl 0 rfl) ?_
                refine za_ld hx hb hK hP 12 0 rfl rfl (by omega) (by omega) dX8_servesAll_107 ?_
                have e_24 := hs9.2.2.2.2 k2 (by omega) (by omega)
                refine zc_v (va_runV (As := [.int (iI (((tdZ now due lat wk k2).2.2.2.2) k2))]) (rest := []) ⟨hx, hb, hml, hown, hts⟩ (kX8_serves l dC dI cI cJ cZ q pw co la vo nC par div dee use mrun nT ((tdZ now due lat wk k2).2.2.1) ((tdZ now due lat wk k2).2.2.2.1) ((tdZ now due lat wk k2).2.2.2.2) ((teZ now tk ld k).2.1) ((teZ now tk ld k).2.2.1) ((teZ now tk ld k).2.2.2) rule now st asl idn idl (sp + (teZ now tk ld k).1 * pw 0 + (tdZ now due lat wk k2).1 * pw 0) (pe + (teZ now tk ld k).1 * pw 0 + (tdZ now due lat wk k2).1 * pw 0) tin slp late (srv + (teZ now tk ld k).1 + (tdZ now due lat wk k2).1) hv av bd sh mL mB thr (((tdZ now due lat wk k2).2.2.2.2) k2) (by first | assumption | omega | exact b2i_01 _) (by first | assumption | omega | exact b2i_01 _) H.size) (cwV 1 hts gX8_servesAll_X8_serves rfl rfl rfl (by decide +kernel) ⟨Nat.le_of_ble_eq_true rfl, Nat.le_of_ble_eq_true rfl⟩) (zpV hK hP hD [0, 1, 2, 3, 4, 5, 6, 7, 8, 9, 10, 11, 12, 13, 14, 15, 16, 17, 18, 19] rfl rfl 0 rfl rfl) rfl rfl hl.1 rfl (lv_room (Nat.le_of_ble_eq_true rfl)) dX8_servesAll_108 ⟨Nat.le_of_ble_eq_true rfl, Nat.le_of_ble_eq_true rfl⟩) hP hD hS hA [0, 1, 2, 3, 4, 5, 6, 7, 8, 9, 10, 11, 12, 13, 14, 15, 16, 17, 18, 19] [] rfl rfl rfl (by decide) (fun u_26 H locs r_25 hP hD hS => ?_)
                have hP : va_P (dC, dI) vwCl (wM cI cJ cZ q pw co la vo nC par div dee use mrun nT ((tdZ now due lat wk k2).2.2.1) ((tdZ now due lat wk k2).2.2.2.1) ((tdZ now due lat wk k2).2.2.2.2) ((teZ now tk ld k).2.1) ((teZ now tk ld k).2.2.1) ((teZ now tk ld k).2.2.2) rule now st asl idn idl ((sp + (teZ now tk ld k).1 * pw 0 + (tdZ now due lat wk k2).1 * pw 0) + (((tdZ now due lat wk k2).2.2.2.2) k2) * pw 0) ((pe + (teZ now tk ld k).1 * pw 0 + (tdZ now due lat wk k2).1 * pw 0) + (((tdZ now due lat wk k2).2.2.2.2) k2) * pw 0) tin slp late ((srv + (teZ now tk ld k).1 + (tdZ now due lat wk k2).1) + (((tdZ now due lat wk k2).2.2.2.2) k2)) hv av bd sh mL mB thr) H := hP
                have hD : va_D A (wM cI cJ cZ q pw co la vo nC par div dee use mrun nT ((tdZ now due lat wk k2).2.2.1) ((tdZ now due lat wk k2).2.2.2.1) ((tdZ now due lat wk k2).2.2.2.2) ((teZ now tk ld k).2.1) ((teZ now tk ld k).2.2.1) ((teZ now tk ld k).2.2.2) rule now st asl idn idl ((sp + (teZ now tk ld k).1 * pw 0 + (tdZ now due lat wk k2).1 * pw 0) + (((tdZ now due lat wk k2).2.2.2.2) k2) * pw 0) ((pe + (teZ now tk ld k).1 * pw 0 + (tdZ now due lat wk k2).1 * pw 0) + (((tdZ now due lat wk k2).2.2.2.2) k2) * pw 0) tin slp late ((srv + (teZ now tk ld k).1 + (tdZ now due lat wk k2).1) + (((tdZ now due lat wk k2).2.2.2.2) k2)) hv av bd sh mL mB thr) := hD
                refine lv_goto (tgt := 153) hx hb dX8_servesAll_111 (by decide) ?_
                refine lv_iinc (v := iI (k2 + 1)) (lv' := [(2, .int (iI (k2 + 1))), (1, .int (iI ((tdZ now due lat wk k2).2.1))), (0, .ref (q 0))]) hx hb dX8_servesAll_153 hl (k := 0) rfl (iI_add _ _) (by decide) rfl (fun ls hl => ?_)
                refine lv_goto (tgt := 80) hx hb dX8_servesAll_156 (by decide) ?_
                have w_28 : ((tdZ now due lat wk (k2 + 1)).2.2.1) = ((tdZ now due lat wk k2).2.2.1) := by first | rfl | (rw [td_y (by omega) (by omega)]; first | done | (rw [Int.add_mul]; omega) | omega) | (rw [td_n (by omega) (by omega)]; done)
                have w_29 : ((tdZ now due lat wk (k2 + 1)).2.2.2.1) = ((tdZ now due lat wk k2).2.2.2.1) := by first | rfl | (rw [td_y (by omega) (by omega)]; first | done | (rw [Int.add_mul]; omega) | omega) | (rw [td_n (by omega) (by omega)]; done)
                have w_30 : ((tdZ now due lat wk (k2 + 1)).2.2.2.2) = ((tdZ now due lat wk k2).2.2.2.2) := by first | rfl | (rw [td_y (by omega) (by omega)]; first | done | (rw [Int.add_mul]; omega) | omega) | (rw [td_n (by omega) (by omega)]; done)
                have w_31 : (sp + (teZ now tk ld k).1 * pw 0 + (tdZ now due lat wk (k2 + 1)).1 * pw 0) = ((sp + (teZ now tk ld k).1 * pw 0 + (tdZ now due lat wk k2).1 * pw 0) + (((tdZ now due lat wk k2).2.2.2.2) k2) * pw 0) := by first | rfl | (rw [td_y (by omega) (by omega)]; first | done | (rw [Int.add_mul]; omega) | omega) | (rw [td_n (by omega) (by omega)]; done)
                have w_32 : (pe + (teZ now tk ld k).1 * pw 0 + (tdZ now due lat wk (k2 + 1)).1 * pw 0) = ((pe + (teZ now tk ld k).1 * pw 0 + (tdZ now due lat wk k2).1 * pw 0) + (((tdZ now due lat wk k2).2.2.2.2) k2) * pw 0) := by first | rfl | (rw [td_y (by omega) (by omega)]; first | done | (rw [Int.add_mul]; omega) | omega) | (rw [td_n (by omega) (by omega)]; done)
                have w_33 : (srv + (teZ now tk ld k).1 + (tdZ now due lat wk (k2 + 1)).1) = ((srv + (teZ now tk ld k).1 + (tdZ now due lat wk k2).1) + (((tdZ now due lat wk k2).2.2.2.2) k2)) := by first | rfl | (rw [td_y (by omega) (by omega)]; first | done | (rw [Int.add_mul]; omega) | omega) | (rw [td_n (by omega) (by omega)]; done)
                have hP : va_P (dC, dI) vwCl (wM cI cJ cZ q pw co la vo nC par div dee use mrun nT ((tdZ now due lat wk (k2 + 1)).2.2.1) ((tdZ now due lat wk (k2 + 1)).2.2.2.1) ((tdZ now due lat wk (k2 + 1)).2.2.2.2) ((teZ now tk ld k).2.1) ((teZ now tk ld k).2.2.1) ((teZ now tk ld k).2.2.2) rule now st asl idn idl (sp + (teZ now tk ld k).1 * pw 0 + (tdZ now due lat wk (k2 + 1)).1 * pw 0) (pe + (teZ now tk ld k).1 * pw 0 + (tdZ now due lat wk (k2 + 1)).1 * pw 0) tin slp late (srv + (teZ now tk ld k).1 + (tdZ now due lat wk (k2 + 1)).1) hv av bd sh mL mB thr) H := by rw [w_28, w_29, w_30, w_31, w_32, w_33]; exact hP
                have hD : va_D A (wM cI cJ cZ q pw co la vo nC par div dee use mrun nT ((tdZ now due lat wk (k2 + 1)).2.2.1) ((tdZ now due lat wk (k2 + 1)).2.2.2.1) ((tdZ now due lat wk (k2 + 1)).2.2.2.2) ((teZ now tk ld k).2.1) ((teZ now tk ld k).2.2.1) ((teZ now tk ld k).2.2.2) rule now st asl idn idl (sp + (teZ now tk ld k).1 * pw 0 + (tdZ now due lat wk (k2 + 1)).1 * pw 0) (pe + (teZ now tk ld k).1 * pw 0 + (tdZ now due lat wk (k2 + 1)).1 * pw 0) tin slp late (srv + (teZ now tk ld k).1 + (tdZ now due lat wk (k2 + 1)).1) hv av bd sh mL mB thr) := by rw [w_28, w_29, w_30, w_31, w_32, w_33]; exact hD
                have w_34 : ((tdZ now due lat wk (k2 + 1)).2.1) = ((tdZ now due lat wk k2).2.1) := by first | rfl | (rw [td_y (by omega) (by omega)]; first | done | (rw [Int.add_mul]; omega) | omega) | (rw [td_n (by omega) (by omega)]; done)
                have hl : lv_has ls 3 [(2, .int (iI (k2 + 1))), (1, .int (iI ((tdZ now due lat wk (k2 + 1)).2.1))), (0, .ref (q 0))] := by rw [w_34]; exact hl
                exact ih (k2 + 1) (by omega) (by omega) H locs hP hD hS ls (lv_sub hl [0, 1, 2] rfl)
        have w_35 : ((tdZ now due lat wk 0).2.2.1) = due := by first | rfl | (rw [td_y (by omega) (by omega)]; first | done | (rw [Int.add_mul]; omega) | omega) | (rw [td_n (by omega) (by omega)]; done)
        have w_36 : ((tdZ now due lat wk 0).2.2.2.1) = lat := by first | rfl | (rw [td_y (by omega) (by omega)]; first | done | (rw [Int.add_mul]; omega) | omega) | (rw [td_n (by omega) (by omega)]; done)
        have w_37 : ((tdZ now due lat wk 0).2.2.2.2) = wk := by first | rfl | (rw [td_y (by omega) (by omega)]; first | done | (rw [Int.add_mul]; omega) | omega) | (rw [td_n (by omega) (by omega)]; done)
        have w_38 : (sp + (teZ now tk ld k).1 * pw 0 + (tdZ now due lat wk 0).1 * pw 0) = (sp + (teZ now tk ld k).1 * pw 0) := by show _ + 0 * pw 0 = _; omega
        have w_39 : (pe + (teZ now tk ld k).1 * pw 0 + (tdZ now due lat wk 0).1 * pw 0) = (pe + (teZ now tk ld k).1 * pw 0) := by show _ + 0 * pw 0 = _; omega
        have w_40 : (srv + (teZ now tk ld k).1 + (tdZ now due lat wk 0).1) = (srv + (teZ now tk ld k).1) := by show _ + 0 = _; omega
        have hP : va_P (dC, dI) vwCl (wM cI cJ cZ q pw co la vo nC par div dee use mrun nT ((tdZ now due lat wk 0).2.2.1) ((tdZ now due lat wk 0).2.2.2.1) ((tdZ now due lat wk 0).2.2.2.2) ((teZ now tk ld k).2.1) ((teZ now tk ld k).2.2.1) ((teZ now tk ld k).2.2.2) rule now st asl idn idl (sp + (teZ now tk ld k).1 * pw 0 + (tdZ now due lat wk 0).1 * pw 0) (pe + (teZ now tk ld k).1 * pw 0 + (tdZ now due lat wk 0).1 * pw 0) tin slp late (srv + (teZ now tk ld k).1 + (tdZ now due lat wk 0).1) hv av bd sh mL mB thr) H := by rw [w_35, w_36, w_37, w_38, w_39, w_40]; exact hP
        have hD : va_D A (wM cI cJ cZ q pw co la vo nC par div dee use mrun nT ((tdZ now due lat wk 0).2.2.1) ((tdZ now due lat wk 0).2.2.2.1) ((tdZ now due lat wk 0).2.2.2.2) ((teZ now tk ld k).2.1) ((teZ now tk ld k).2.2.1) ((teZ now tk ld k).2.2.2) rule now st asl idn idl (sp + (teZ now tk ld k).1 * pw 0 + (tdZ now due lat wk 0).1 * pw 0) (pe + (teZ now tk ld k).1 * pw 0 + (tdZ now due lat wk 0).1 * pw 0) tin slp late (srv + (teZ now tk ld k).1 + (tdZ now due lat wk 0).1) hv av bd sh mL mB thr) := by rw [w_35, w_36, w_37, w_38, w_39, w_40]; exact hD
        have w_41 : ((tdZ now due lat wk 0).2.1) = 0 := by first | rfl | (rw [td_y (by omega) (by omega)]; first | done | (rw [Int.add_mul]; omega) | omega) | (rw [td_n (by omega) (by omega)]; done)
        have hl : lv_has ls 3 [(2, .int (iI 0)), (1, .int (iI ((tdZ now due lat wk 0).2.1))), (0, .ref (q 0))] := by rw [w_41]; exact hl
        exact L80 (_ + 1) 0 (by omega) (Nat.lt_succ_self _) H locs hP hD hS ls (lv_sub hl [0, 1, 2] rfl)
      · skip
        refine lv_aload_n hx hb dX8_servesAll_12 rfl (lv_at hl 2 rfl) ?_
        refine va_get (D := (dC, dI)) (ci := 8) (v := .ref (q 13)) (C := RX8) (T := TX8) (N := 36) hx hb hts hinX8 hown hK.1 hP 0 rfl rfl 15 (by decide) (hts _ (List.mem_of_getElem? (i := 2) rfl)) (fun _ h9 => h9) rfl dX8_servesAll_13 ?_
        refine lv_iload_n hx hb dX8_servesAll_16 rfl (lv_at hl 0 rfl) ?_
        refine za_ld hx hb hK hP 13 0 rfl rfl (by omega) (by omega) dX8_servesAll_17 ?_
        have e_42 := hr9.2.2.1 k (by omega) (by omega)
        refine lv_aload_n hx hb dX8_servesAll_18 rfl (lv_at hl 2 rfl) ?_
        have hlo8 := hlo9 k (by omega) (by omega)
        refine va_get (D := (dC, dI)) (ci := 8) (v := .int (iI now)) (C := RX8) (T := TX8) (N := 36) hx hb hts hinX8 hown hK.1 hP 0 rfl rfl 18 (by decide) (hts _ (List.mem_of_getElem? (i := 3) rfl)) (fun _ h9 => h9) rfl dX8_servesAll_19 ?_
        refine zi_cne (tgt := 38) hx hb (by omega) (by omega) dX8_servesAll_22 (by decide) (fun c_43 => ?_) (fun c_43 => ?_)
        · skip
          refine lv_aload_n hx hb dX8_servesAll_38 rfl (lv_at hl 2 rfl) ?_
          refine va_get (D := (dC, dI)) (ci := 8) (v := .ref (q 13)) (C := RX8) (T := TX8) (N := 36) hx hb hts hinX8 hown hK.1 hP 0 rfl rfl 15 (by decide) (hts _ (List.mem_of_getElem? (i := 2) rfl)) (fun _ h9 => h9) rfl dX8_servesAll_39 ?_
          refine lv_iload_n hx hb dX8_servesAll_42 rfl (lv_at hl 1 rfl) ?_
          refine lv_aload_n hx hb dX8_servesAll_43 rfl (lv_at hl 2 rfl) ?_
          refine va_get (D := (dC, dI)) (ci := 8) (v := .ref (q 13)) (C := RX8) (T := TX8) (N := 36) hx hb hts hinX8 hown hK.1 hP 0 rfl rfl 15 (by decide) (hts _ (List.mem_of_getElem? (i := 2) rfl)) (fun _ h9 => h9) rfl dX8_servesAll_44 ?_
          refine lv_iload_n hx hb dX8_servesAll_47 rfl (lv_at hl 0 rfl) ?_
          refine za_ld hx hb hK hP 13 0 rfl rfl (by omega) (by omega) dX8_servesAll_48 ?_
          have e_44 := hr9.2.2.1 k (by omega) (by omega)
          refine za_st hx hb hK hP hD hS 13 0 rfl rfl (by omega) (by omega) dX8_servesAll_49 (fun H locs hP hD hS => ?_)
          have hP : va_P (dC, dI) vwCl (wM cI cJ cZ q pw co la vo nC par div dee use mrun nT due lat wk nE (uZ ((teZ now tk ld k).2.2.1) ((teZ now tk ld k).2.1) (((teZ now tk ld k).2.2.1) k)) ((teZ now tk ld k).2.2.2) rule now st asl idn idl (sp + (teZ now tk ld k).1 * pw 0) (pe + (teZ now tk ld k).1 * pw 0) tin slp late (srv + (teZ now tk ld k).1) hv av bd sh mL mB thr) H := hP
          have hD : va_D A (wM cI cJ cZ q pw co la vo nC par div dee use mrun nT due lat wk nE (uZ ((teZ now tk ld k).2.2.1) ((teZ now tk ld k).2.1) (((teZ now tk ld k).2.2.1) k)) ((teZ now tk ld k).2.2.2) rule now st asl idn idl (sp + (teZ now tk ld k).1 * pw 0) (pe + (teZ now tk ld k).1 * pw 0) tin slp late (srv + (teZ now tk ld k).1) hv av bd sh mL mB thr) := hD
          refine lv_aload_n hx hb dX8_servesAll_50 rfl (lv_at hl 2 rfl) ?_
          refine va_get (D := (dC, dI)) (ci := 8) (v := .ref (q 14)) (C := RX8) (T := TX8) (N := 36) hx hb hts hinX8 hown hK.1 hP 0 rfl rfl 16 (by decide) (hts _ (List.mem_of_getElem? (i := 4) rfl)) (fun _ h9 => h9) rfl dX8_servesAll_51 ?_
          refine lv_iload_n hx hb dX8_servesAll_54 rfl (lv_at hl 1 rfl) ?_
          refine lv_aload_n hx hb dX8_servesAll_55 rfl (lv_at hl 2 rfl) ?_
          refine va_get (D := (dC, dI)) (ci := 8) (v := .ref (q 14)) (C := RX8) (T := TX8) (N := 36) hx hb hts hinX8 hown hK.1 hP 0 rfl rfl 16 (by decide) (hts _ (List.mem_of_getElem? (i := 4) rfl)) (fun _ h9 => h9) rfl dX8_servesAll_56 ?_
          refine lv_iload_n hx hb dX8_servesAll_59 rfl (lv_at hl 0 rfl) ?_
          refine za_ld hx hb hK hP 14 0 rfl rfl (by omega) (by omega) dX8_servesAll_60 ?_
          have e_45 := hr9.2.2.2 k (by omega) (by omega)
          refine za_st hx hb hK hP hD hS 14 0 rfl rfl (by omega) (by omega) dX8_servesAll_61 (fun H locs hP hD hS => ?_)
          have hP : va_P (dC, dI) vwCl (wM cI cJ cZ q pw co la vo nC par div dee use mrun nT due lat wk nE (uZ ((teZ now tk ld k).2.2.1) ((teZ now tk ld k).2.1) (((teZ now tk ld k).2.2.1) k)) (uZ ((teZ now tk ld k).2.2.2) ((teZ now tk ld k).2.1) (((teZ now tk ld k).2.2.2) k)) rule now st asl idn idl (sp + (teZ now tk ld k).1 * pw 0) (pe + (teZ now tk ld k).1 * pw 0) tin slp late (srv + (teZ now tk ld k).1) hv av bd sh mL mB thr) H := hP
          have hD : va_D A (wM cI cJ cZ q pw co la vo nC par div dee use mrun nT due lat wk nE (uZ ((teZ now tk ld k).2.2.1) ((teZ now tk ld k).2.1) (((teZ now tk ld k).2.2.1) k)) (uZ ((teZ now tk ld k).2.2.2) ((teZ now tk ld k).2.1) (((teZ now tk ld k).2.2.2) k)) rule now st asl idn idl (sp + (teZ now tk ld k).1 * pw 0) (pe + (teZ now tk ld k).1 * pw 0) tin slp late (srv + (teZ now tk ld k).1) hv av bd sh mL mB thr) := hD
          refine lv_iinc (v := iI (((teZ now tk ld k).2.1) + 1)) (lv' := [(1, .int (iI (((teZ now tk ld k).2.1) + 1))), (2, .int (iI k)), (0, .ref (q 0))]) hx hb dX8_servesAll_62 hl (k := 1) rfl (iI_add _ _) (by decide) rfl (fun ls hl => ?_)
          refine lv_iinc (v := iI (k + 1)) (lv' := [(2, .int (iI (k + 1))), (1, .int (iI (((teZ now tk ld k).2.1) + 1))), (0, .ref (q 0))]) hx hb dX8_servesAll_65 hl (k := 1) rfl (iI_add _ _) (by decide) rfl (fun ls hl => ?_)
          refine lv_goto (tgt := 4) hx hb dX8_servesAll_68 (by decide) ?_
          have w_46 : ((teZ now tk ld (k + 1)).2.2.1) = (uZ ((teZ now tk ld k).2.2.1) ((teZ now tk ld k).2.1) (((teZ now tk ld k).2.2.1) k)) := by first | rfl | (rw [te_y (by omega) (by omega)]; first | done | (rw [Int.add_mul]; omega) | omega) | (rw [te_n (by omega) (by omega)]; done)
          have w_47 : ((teZ now tk ld (k + 1)).2.2.2) = (uZ ((teZ now tk ld k).2.2.2) ((teZ now tk ld k).2.1) (((teZ now tk ld k).2.2.2) k)) := by first | rfl | (rw [te_y (by omega) (by omega)]; first | done | (rw [Int.add_mul]; omega) | omega) | (rw [te_n (by omega) (by omega)]; done)
          have w_48 : (sp + (teZ now tk ld (k + 1)).1 * pw 0) = (sp + (teZ now tk ld k).1 * pw 0) := by first | rfl | (rw [te_y (by omega) (by omega)]; first | done | (rw [Int.add_mul]; omega) | omega) | (rw [te_n (by omega) (by omega)]; done)
          have w_49 : (pe + (teZ now tk ld (k + 1)).1 * pw 0) = (pe + (teZ now tk ld k).1 * pw 0) := by first | rfl | (rw [te_y (by omega) (by omega)]; first | done | (rw [Int.add_mul]; omega) | omega) | (rw [te_n (by omega) (by omega)]; done)
          have w_50 : (srv + (teZ now tk ld (k + 1)).1) = (srv + (teZ now tk ld k).1) := by first | rfl | (rw [te_y (by omega) (by omega)]; first | done | (rw [Int.add_mul]; omega) | omega) | (rw [te_n (by omega) (by omega)]; done)
          have hP : va_P (dC, dI) vwCl (wM cI cJ cZ q pw co la vo nC par div dee use mrun nT due lat wk nE ((teZ now tk ld (k + 1)).2.2.1) ((teZ now tk ld (k + 1)).2.2.2) rule now st asl idn idl (sp + (teZ now tk ld (k + 1)).1 * pw 0) (pe + (teZ now tk ld (k + 1)).1 * pw 0) tin slp late (srv + (teZ now tk ld (k + 1)).1) hv av bd sh mL mB thr) H := by rw [w_46, w_47, w_48, w_49, w_50]; exact hP
          have hD : va_D A (wM cI cJ cZ q pw co la vo nC par div dee use mrun nT due lat wk nE ((teZ now tk ld (k + 1)).2.2.1) ((teZ now tk ld (k + 1)).2.2.2) rule now st asl idn idl (sp + (teZ now tk ld (k + 1)).1 * pw 0) (pe + (teZ now tk ld (k + 1)).1 * pw 0) tin slp late (srv + (teZ now tk ld (k + 1)).1) hv av bd sh mL mB thr) := by rw [w_46, w_47, w_48, w_49, w_50]; exact hD
          have w_51 : ((teZ now tk ld (k + 1)).2.1) = (((teZ now tk ld k).2.1) + 1) := by first | rfl | (rw [te_y (by omega) (by omega)]; first | done | (rw [Int.add_mul]; omega) | omega) | (rw [te_n (by omega) (by omega)]; done)
          have hl : lv_has ls 3 [(2, .int (iI (k + 1))), (1, .int (iI ((teZ now tk ld (k + 1)).2.1))), (0, .ref (q 0))] := by rw [w_51]; exact hl
          exact ih (k + 1) (by omega) (by omega) H locs hP hD hS ls (lv_sub hl [0, 1, 2] rfl)
        · skip
          refine lv_aload_n hx hb dX8_servesAll_25 rfl (lv_at hl 2 rfl) ?_
          refine lv_aload_n hx hb dX8_servesAll_26 rfl (lv_at hl 2 rfl) ?_
          refine va_get (D := (dC, dI)) (ci := 8) (v := .ref (q 14)) (C := RX8) (T := TX8) (N := 36) hx hb hts hinX8 hown hK.1 hP 0 rfl rfl 16 (by decide) (hts _ (List.mem_of_getElem? (i := 4) rfl)) (fun _ h9 => h9) rfl dX8_servesAll_27 ?_
          refine lv_iload_n hx hb dX8_servesAll_30 rfl (lv_at hl 0 rfl) ?_
          refine za_ld hx hb hK hP 14 0 rfl rfl (by omega) (by omega) dX8_servesAll_31 ?_
          have e_52 := hr9.2.2.2 k (by omega) (by omega)
          refine zc_v (va_runV (As := [.int (iI (((teZ now tk ld k).2.2.2) k))]) (rest := []) ⟨hx, hb, hml, hown, hts⟩ (kX8_serves l dC dI cI cJ cZ q pw co la vo nC par div dee use mrun nT due lat wk nE ((teZ now tk ld k).2.2.1) ((teZ now tk ld k).2.2.2) rule now st asl idn idl (sp + (teZ now tk ld k).1 * pw 0) (pe + (teZ now tk ld k).1 * pw 0) tin slp late (srv + (teZ now tk ld k).1) hv av bd sh mL mB thr (((teZ now tk ld k).2.2.2) k) (by first | assumption | omega | exact b2i_01 _) (by first | assumption | omega | exact b2i_01 _) H.size) (cwV 1 hts gX8_servesAll_X8_serves rfl rfl rfl (by decide +kernel) ⟨Nat.le_of_ble_eq_true rfl, Nat.le_of_ble_eq_true rfl⟩) (zpV hK hP hD [0, 1, 2, 3, 4, 5, 6, 7, 8, 9, 10, 11, 12, 13, 14, 15, 16, 17, 18, 19] rfl rfl 0 rfl rfl) rfl rfl hl.1 rfl (lv_room (Nat.le_of_ble_eq_true rfl)) dX8_servesAll_32 ⟨Nat.le_of_ble_eq_true rfl, Nat.le_of_ble_eq_true rfl⟩) hP hD hS hA [0, 1, 2, 3, 4, 5, 6, 7, 8, 9, 10, 11, 12, 13, 14, 15, 16, 17, 18, 19] [] rfl rfl rfl (by decide) (fun u_54 H locs r_53 hP hD hS => ?_)
          have hP : va_P (dC, dI) vwCl (wM cI cJ cZ q pw co la vo nC par div dee use mrun nT due lat wk nE ((teZ now tk ld k).2.2.1) ((teZ now tk ld k).2.2.2) rule now st asl idn idl ((sp + (teZ now tk ld k).1 * pw 0) + (((teZ now tk ld k).2.2.2) k) * pw 0) ((pe + (teZ now tk ld k).1 * pw 0) + (((teZ now tk ld k).2.2.2) k) * pw 0) tin slp late ((srv + (teZ now tk ld k).1) + (((teZ now tk ld k).2.2.2) k)) hv av bd sh mL mB thr) H := hP
          have hD : va_D A (wM cI cJ cZ q pw co la vo nC par div dee use mrun nT due lat wk nE ((teZ now tk ld k).2.2.1) ((teZ now tk ld k).2.2.2) rule now st asl idn idl ((sp + (teZ now tk ld k).1 * pw 0) + (((teZ now tk ld k).2.2.2) k) * pw 0) ((pe + (teZ now tk ld k).1 * pw 0) + (((teZ now tk ld k).2.2.2) k) * pw 0) tin slp late ((srv + (teZ now tk ld k).1) + (((teZ now tk ld k).2.2.2) k)) hv av bd sh mL mB thr) := hD
          refine lv_goto (tgt := 65) hx hb dX8_servesAll_35 (by decide) ?_
          refine lv_iinc (v := iI (k + 1)) (lv' := [(2, .int (iI (k + 1))), (1, .int (iI ((teZ now tk ld k).2.1))), (0, .ref (q 0))]) hx hb dX8_servesAll_65 hl (k := 0) rfl (iI_add _ _) (by decide) rfl (fun ls hl => ?_)
          refine lv_goto (tgt := 4) hx hb dX8_servesAll_68 (by decide) ?_
          have w_56 : ((teZ now tk ld (k + 1)).2.2.1) = ((teZ now tk ld k).2.2.1) := by first | rfl | (rw [te_y (by omega) (by omega)]; first | done | (rw [Int.add_mul]; omega) | omega) | (rw [te_n (by omega) (by omega)]; done)
          have w_57 : ((teZ now tk ld (k + 1)).2.2.2) = ((teZ now tk ld k).2.2.2) := by first | rfl | (rw [te_y (by omega) (by omega)]; first | done | (rw [Int.add_mul]; omega) | omega) | (rw [te_n (by omega) (by omega)]; done)
          have w_58 : (sp + (teZ now tk ld (k + 1)).1 * pw 0) = ((sp + (teZ now tk ld k).1 * pw 0) + (((teZ now tk ld k).2.2.2) k) * pw 0) := by first | rfl | (rw [te_y (by omega) (by omega)]; first | done | (rw [Int.add_mul]; omega) | omega) | (rw [te_n (by omega) (by omega)]; done)
          have w_59 : (pe + (teZ now tk ld (k + 1)).1 * pw 0) = ((pe + (teZ now tk ld k).1 * pw 0) + (((teZ now tk ld k).2.2.2) k) * pw 0) := by first | rfl | (rw [te_y (by omega) (by omega)]; first | done | (rw [Int.add_mul]; omega) | omega) | (rw [te_n (by omega) (by omega)]; done)
          have w_60 : (srv + (teZ now tk ld (k + 1)).1) = ((srv + (teZ now tk ld k).1) + (((teZ now tk ld k).2.2.2) k)) := by first | rfl | (rw [te_y (by omega) (by omega)]; first | done | (rw [Int.add_mul]; omega) | omega) | (rw [te_n (by omega) (by omega)]; done)
          have hP : va_P (dC, dI) vwCl (wM cI cJ cZ q pw co la vo nC par div dee use mrun nT due lat wk nE ((teZ now tk ld (k + 1)).2.2.1) ((teZ now tk ld (k + 1)).2.2.2) rule now st asl idn idl (sp + (teZ now tk ld (k + 1)).1 * pw 0) (pe + (teZ now tk ld (k + 1)).1 * pw 0) tin slp late (srv + (teZ now tk ld (k + 1)).1) hv av bd sh mL mB thr) H := by rw [w_56, w_57, w_58, w_59, w_60]; exact hP
          have hD : va_D A (wM cI cJ cZ q pw co la vo nC par div dee use mrun nT due lat wk nE ((teZ now tk ld (k + 1)).2.2.1) ((teZ now tk ld (k + 1)).2.2.2) rule now st asl idn idl (sp + (teZ now tk ld (k + 1)).1 * pw 0) (pe + (teZ now tk ld (k + 1)).1 * pw 0) tin slp late (srv + (teZ now tk ld (k + 1)).1) hv av bd sh mL mB thr) := by rw [w_56, w_57, w_58, w_59, w_60]; exact hD
          have w_61 : ((teZ now tk ld (k + 1)).2.1) = ((teZ now tk ld k).2.1) := by first | rfl | (rw [te_y (by omega) (by omega)]; first | done | (rw [Int.add_mul]; omega) | omega) | (rw [te_n (by omega) (by omega)]; done)
          have hl : lv_has ls 3 [(2, .int (iI (k + 1))), (1, .int (iI ((teZ now tk ld (k + 1)).2.1))), (0, .ref (q 0))] := by rw [w_61]; exact hl
          exact ih (k + 1) (by omega) (by omega) H locs hP hD hS ls (lv_sub hl [0, 1, 2] rfl)
  have w_62 : ((teZ now tk ld 0).2.2.1) = tk := by first | rfl | (rw [te_y (by omega) (by omega)]; first | done | (rw [Int.add_mul]; omega) | omega) | (rw [te_n (by omega) (by omega)]; done)
  have w_63 : ((teZ now tk ld 0).2.2.2) = ld := by first | rfl | (rw [te_y (by omega) (by omega)]; first | done | (rw [Int.add_mul]; omega) | omega) | (rw [te_n (by omega) (by omega)]; done)
  have w_64 : (sp + (teZ now tk ld 0).1 * pw 0) = sp := by show sp + 0 * pw 0 = sp; omega
  have w_65 : (pe + (teZ now tk ld 0).1 * pw 0) = pe := by show pe + 0 * pw 0 = pe; omega
  have w_66 : (srv + (teZ now tk ld 0).1) = srv := by show _ = srv; show srv + 0 = srv; omega
  have hP : va_P (dC, dI) vwCl (wM cI cJ cZ q pw co la vo nC par div dee use mrun nT due lat wk nE ((teZ now tk ld 0).2.2.1) ((teZ now tk ld 0).2.2.2) rule now st asl idn idl (sp + (teZ now tk ld 0).1 * pw 0) (pe + (teZ now tk ld 0).1 * pw 0) tin slp late (srv + (teZ now tk ld 0).1) hv av bd sh mL mB thr) s.heap := by rw [w_62, w_63, w_64, w_65, w_66]; exact hP
  have hD : va_D A (wM cI cJ cZ q pw co la vo nC par div dee use mrun nT due lat wk nE ((teZ now tk ld 0).2.2.1) ((teZ now tk ld 0).2.2.2) rule now st asl idn idl (sp + (teZ now tk ld 0).1 * pw 0) (pe + (teZ now tk ld 0).1 * pw 0) tin slp late (srv + (teZ now tk ld 0).1) hv av bd sh mL mB thr) := by rw [w_62, w_63, w_64, w_65, w_66]; exact hD
  have w_67 : ((teZ now tk ld 0).2.1) = 0 := by first | rfl | (rw [te_y (by omega) (by omega)]; first | done | (rw [Int.add_mul]; omega) | omega) | (rw [te_n (by omega) (by omega)]; done)
  have hl : lv_has ls 3 [(2, .int (iI 0)), (1, .int (iI ((teZ now tk ld 0).2.1))), (0, .ref (q 0))] := by rw [w_67]; exact hl
  exact L4 (_ + 1) 0 (by omega) (Nat.lt_succ_self _) s.heap [] hP hD hS ls (lv_sub hl [0, 1, 2] rfl)
def rmX8_mean : Room := { frames := 0, cells := 0, slots := 0, locals := 0 }
set_option maxRecDepth 100000 in
set_option maxHeartbeats 4000000 in
theorem kX8_mean (l : Launch) (dC : Nat → ClassId) (dI : Nat → Nat → Nat) (cI cJ cZ : ClassId) (q : Nat → Nat)  (pw : Int → Int) (co : Int → Int) (la : Int → Int) (vo : Int → Int) (nC : Int) (par : Int → Int) (div : Int → Int) (dee : Int → Int) (use : Int → Int) (mrun : Int → Int) (nT : Int) (due : Int → Int) (lat : Int → Int) (wk : Int → Int) (nE : Int) (tk : Int → Int) (ld : Int → Int) (rule : Int) (now : Int) (st : Int) (asl : Int) (idn : Int) (idl : Int → Int) (sp : Int) (pe : Int) (tin : Int → Int) (slp : Int) (late : Int) (srv : Int) (hv : Int → Int) (av : Int) (bd : Int) (sh : Int) (mL : Int → Int) (mB : Int → Int) (thr : Int) (hidn : 0 ≤ idn ∧ idn ≤ 2000000) (hidl : rgZ idl 4 1000000) : zPi l yX8_mean wsX8_mean rmX8_mean (dC, dI) (zT cI cJ cZ) (wM cI cJ cZ q pw co la vo nC par div dee use mrun nT due lat wk nE tk ld rule now st asl idn idl sp pe tin slp late srv hv av bd sh mL mB thr) [.ref (q 0)] (meM idl idn) := by
  refine zent_pi (cc := cX8_mean) (maxL := 4) (ret := (some .int)) (by decide +kernel) rfl (Nat.le_of_ble_eq_true rfl) ?_
  intro p e s m below meth c ls hE hP hK hl
  obtain ⟨hx, hb, hr, hml, hown, hts, hlocks, hmn⟩ := hE
  have hinX8 : ∀ w ∈ u_ws RX8 TX8 36, w ∈ wsX8_mean := by decide +kernel
  have hl : lv_has ls 4 [(0, .ref (q 0))] := hl
  refine z_gen (fun Q hQ => ?_)
  refine lv_aload_n hx hb dX8_mean_0 rfl (lv_at hl 0 rfl) ?_
  refine va_get (D := (dC, dI)) (ci := 8) (v := .int (iI idn)) (C := RX8) (T := TX8) (N := 36) hx hb hts hinX8 hown hK.1 hP 0 rfl rfl 21 (by decide) (hts _ (List.mem_of_getElem? (i := 1) rfl)) (fun _ h9 => h9) rfl dX8_mean_1 ?_
  refine lv_iconst (v := iI 4) hx hb dX8_mean_4 rfl ?_
  refine zi_cge (tgt := 15) hx hb (by omega) (by decide) dX8_mean_5 (by decide) (fun c_1 => ?_) (fun c_1 => ?_)
  · skip
    refine lv_iconst (v := iI 4) hx hb dX8_mean_15 rfl ?_
    refine lv_istore_n (lv' := [(1, .int (iI 4)), (0, .ref (q 0))]) hx hb dX8_mean_16 rfl hl (by decide) rfl (fun ls hl => ?_)
    refine lv_iconst (v := iI 0) hx hb dX8_mean_17 rfl ?_
    refine lv_istore_n (lv' := [(2, .int (iI 0)), (1, .int (iI 4)), (0, .ref (q 0))]) hx hb dX8_mean_18 rfl hl (by decide) rfl (fun ls hl => ?_)
    refine lv_iconst (v := iI 0) hx hb dX8_mean_19 rfl ?_
    refine lv_istore_n (lv' := [(3, .int (iI 0)), (2, .int (iI 0)), (1, .int (iI 4)), (0, .ref (q 0))]) hx hb dX8_mean_20 rfl hl (by decide) rfl (fun ls hl => ?_)
    have L21 : ∀ (fuel : Nat) (k : Int) (x : Int), (0 ≤ k ∧ k ≤ min idn 4) → (x = suZ idl k) → ((4 - k).toNat) < fuel → ∀ ls : Array Slot, lv_has ls 4 [(3, .int (iI k)), (2, .int (iI x)), (1, .int (iI 4)), (0, .ref (q 0))] → W p l e rmX8_mean s m ([.ref (q 0)] : List Value).toArray below meth c s.heap [] 0 0 Q (F0 m 21 ls []) := by
      intro fuel
      induction fuel with
      | zero =>
        intro k x hk hI hmeas ls hl
        exact absurd hmeas (by omega)
      | succ fuel ih =>
        intro k x hk hI hmeas ls hl
        have hr9 := su_r (n := k) (by omega) hidl (by omega)
        refine lv_iload_n hx hb dX8_mean_21 rfl (lv_at hl 0 rfl) ?_
        refine lv_iload_n hx hb dX8_mean_22 rfl (lv_at hl 2 rfl) ?_
        refine zi_cge (tgt := 41) hx hb (by omega) (by decide) dX8_mean_23 (by decide) (fun c_2 => ?_) (fun c_2 => ?_)
        · skip
          refine lv_iload_n hx hb dX8_mean_41 rfl (lv_at hl 2 rfl) ?_
          refine zi_fne (tgt := 50) hx hb (by decide) dX8_mean_42 (by decide) (fun c_3 => ?_) (fun c_3 => ?_)
          · skip
            refine lv_iload_n hx hb dX8_mean_50 rfl (lv_at hl 1 rfl) ?_
            refine lv_iload_n hx hb dX8_mean_51 rfl (lv_at hl 2 rfl) ?_
            refine zi_div hx hb (by omega) (by omega) dX8_mean_52 ?_
            subst hQ
            exact zret_pi hx hb hr hlocks dX8_mean_53 (by unfold meM meZ; first | (rw [if_pos (by omega)]; done) | (rw [if_neg (by omega), hI]; (obtain rfl : k = min idn 4 := by omega); congr 1; omega))
          · skip
            exact absurd c_3 (by decide)
        · skip
          refine lv_iload_n hx hb dX8_mean_26 rfl (lv_at hl 1 rfl) ?_
          refine lv_aload_n hx hb dX8_mean_27 rfl (lv_at hl 3 rfl) ?_
          refine va_get (D := (dC, dI)) (ci := 8) (v := .ref (q 15)) (C := RX8) (T := TX8) (N := 36) hx hb hts hinX8 hown hK.1 hP 0 rfl rfl 22 (by decide) (hts _ (List.mem_of_getElem? (i := 2) rfl)) (fun _ h9 => h9) rfl dX8_mean_28 ?_
          refine lv_iload_n hx hb dX8_mean_31 rfl (lv_at hl 0 rfl) ?_
          refine za_ld hx hb hK hP 15 0 rfl rfl (by omega) (by omega) dX8_mean_32 ?_
          have e_4 := hidl k (by omega) (by omega)
          refine zi_add hx hb dX8_mean_33 ?_
          refine lv_istore_n (lv' := [(2, .int (iI (x + (idl k)))), (3, .int (iI k)), (1, .int (iI 4)), (0, .ref (q 0))]) hx hb dX8_mean_34 rfl hl (by decide) rfl (fun ls hl => ?_)
          refine lv_iinc (v := iI (k + 1)) (lv' := [(3, .int (iI (k + 1))), (2, .int (iI (x + (idl k)))), (1, .int (iI 4)), (0, .ref (q 0))]) hx hb dX8_mean_35 hl (k := 1) rfl (iI_add _ _) (by decide) rfl (fun ls hl => ?_)
          refine lv_goto (tgt := 21) hx hb dX8_mean_38 (by decide) ?_
          exact ih (k + 1) (x + (idl k)) (by omega) (by unfold suZ; rw [foZ_s _ _ (by omega)]; show x + _ = idF idl k (suZ idl k); rw [← hI]; rfl) (by omega) ls (lv_sub hl [0, 1, 2, 3] rfl)
    exact L21 (_ + 1) 0 0 (by omega) (rfl) (Nat.lt_succ_self _) ls (lv_sub hl [0, 1, 2, 3] rfl)
  · skip
    refine lv_aload_n hx hb dX8_mean_8 rfl (lv_at hl 0 rfl) ?_
    refine va_get (D := (dC, dI)) (ci := 8) (v := .int (iI idn)) (C := RX8) (T := TX8) (N := 36) hx hb hts hinX8 hown hK.1 hP 0 rfl rfl 21 (by decide) (hts _ (List.mem_of_getElem? (i := 1) rfl)) (fun _ h9 => h9) rfl dX8_mean_9 ?_
    refine lv_goto (tgt := 16) hx hb dX8_mean_12 (by decide) ?_
    refine lv_istore_n (lv' := [(1, .int (iI idn)), (0, .ref (q 0))]) hx hb dX8_mean_16 rfl hl (by decide) rfl (fun ls hl => ?_)
    refine lv_iconst (v := iI 0) hx hb dX8_mean_17 rfl ?_
    refine lv_istore_n (lv' := [(2, .int (iI 0)), (1, .int (iI idn)), (0, .ref (q 0))]) hx hb dX8_mean_18 rfl hl (by decide) rfl (fun ls hl => ?_)
    refine lv_iconst (v := iI 0) hx hb dX8_mean_19 rfl ?_
    refine lv_istore_n (lv' := [(3, .int (iI 0)), (2, .int (iI 0)), (1, .int (iI idn)), (0, .ref (q 0))]) hx hb dX8_mean_20 rfl hl (by decide) rfl (fun ls hl => ?_)
    have L21 : ∀ (fuel : Nat) (k : Int) (x : Int), (0 ≤ k ∧ k ≤ min idn 4) → (x = suZ idl k) → ((4 - k).toNat) < fuel → ∀ ls : Array Slot, lv_has ls 4 [(3, .int (iI k)), (2, .int (iI x)), (1, .int (iI idn)), (0, .ref (q 0))] → W p l e rmX8_mean s m ([.ref (q 0)] : List Value).toArray below meth c s.heap [] 0 0 Q (F0 m 21 ls []) := by
      intro fuel
      induction fuel with
      | zero =>
        intro k x hk hI hmeas ls hl
        exact absurd hmeas (by omega)
      | succ fuel ih =>
        intro k x hk hI hmeas ls hl
        have hr9 := su_r (n := k) (by omega) hidl (by omega)
        refine lv_iload_n hx hb dX8_mean_21 rfl (lv_at hl 0 rfl) ?_
        refine lv_iload_n hx hb dX8_mean_22 rfl (lv_at hl 2 rfl) ?_
        refine zi_cge (tgt := 41) hx hb (by omega) (by omega) dX8_mean_23 (by decide) (fun c_5 => ?_) (fun c_5 => ?_)
        · skip
          refine lv_iload_n hx hb dX8_mean_41 rfl (lv_at hl 2 rfl) ?_
          refine zi_fne (tgt := 50) hx hb (by omega) dX8_mean_42 (by decide) (fun c_6 => ?_) (fun c_6 => ?_)
          · skip
            refine lv_iload_n hx hb dX8_mean_50 rfl (lv_at hl 1 rfl) ?_
            refine lv_iload_n hx hb dX8_mean_51 rfl (lv_at hl 2 rfl) ?_
            refine zi_div hx hb (by omega) (by omega) dX8_mean_52 ?_
            subst hQ
            exact zret_pi hx hb hr hlocks dX8_mean_53 (by unfold meM meZ; first | (rw [if_pos (by omega)]; done) | (rw [if_neg (by omega), hI]; (obtain rfl : k = min idn 4 := by omega); congr 1; omega))
          · skip
            refine lv_ldc (v := iI 1000000000) hx hb hown (hts _ (List.mem_of_getElem? (i := 3) rfl)) dX8_mean_45 ?_
            refine lv_goto (tgt := 53) hx hb dX8_mean_47 (by decide) ?_
            subst hQ
            exact zret_pi hx hb hr hlocks dX8_mean_53 (by unfold meM meZ; first | (rw [if_pos (by omega)]; done) | (rw [if_neg (by omega), hI]; (obtain rfl : k = min idn 4 := by omega); congr 1; omega))
        · skip
          refine lv_iload_n hx hb dX8_mean_26 rfl (lv_at hl 1 rfl) ?_
          refine lv_aload_n hx hb dX8_mean_27 rfl (lv_at hl 3 rfl) ?_
          refine va_get (D := (dC, dI)) (ci := 8) (v := .ref (q 15)) (C := RX8) (T := TX8) (N := 36) hx hb hts hinX8 hown hK.1 hP 0 rfl rfl 22 (by decide) (hts _ (List.mem_of_getElem? (i := 2) rfl)) (fun _ h9 => h9) rfl dX8_mean_28 ?_
          refine lv_iload_n hx hb dX8_mean_31 rfl (lv_at hl 0 rfl) ?_
          refine za_ld hx hb hK hP 15 0 rfl rfl (by omega) (by omega) dX8_mean_32 ?_
          have e_7 := hidl k (by omega) (by omega)
          refine zi_add hx hb dX8_mean_33 ?_
          refine lv_istore_n (lv' := [(2, .int (iI (x + (idl k)))), (3, .int (iI k)), (1, .int (iI idn)), (0, .ref (q 0))]) hx hb dX8_mean_34 rfl hl (by decide) rfl (fun ls hl => ?_)
          refine lv_iinc (v := iI (k + 1)) (lv' := [(3, .int (iI (k + 1))), (2, .int (iI (x + (idl k)))), (1, .int (iI idn)), (0, .ref (q 0))]) hx hb dX8_mean_35 hl (k := 1) rfl (iI_add _ _) (by decide) rfl (fun ls hl => ?_)
          refine lv_goto (tgt := 21) hx hb dX8_mean_38 (by decide) ?_
          exact ih (k + 1) (x + (idl k)) (by omega) (by unfold suZ; rw [foZ_s _ _ (by omega)]; show x + _ = idF idl k (suZ idl k); rw [← hI]; rfl) (by omega) ls (lv_sub hl [0, 1, 2, 3] rfl)
    exact L21 (_ + 1) 0 0 (by omega) (rfl) (Nat.lt_succ_self _) ls (lv_sub hl [0, 1, 2, 3] rfl)
def rmX8_chooses : Room := { frames := 2, cells := 0, slots := 0, locals := 44 }
set_option maxRecDepth 100000 in
set_option maxHeartbeats 4000000 in
theorem kX8_chooses (l : Launch) (dC : Nat → ClassId) (dI : Nat → Nat → Nat) (cI cJ cZ : ClassId) (q : Nat → Nat)  (pw : Int → Int) (co : Int → Int) (la : Int → Int) (vo : Int → Int) (nC : Int) (par : Int → Int) (div : Int → Int) (dee : Int → Int) (use : Int → Int) (mrun : Int → Int) (nT : Int) (due : Int → Int) (lat : Int → Int) (wk : Int → Int) (nE : Int) (tk : Int → Int) (ld : Int → Int) (rule : Int) (now : Int) (st : Int) (asl : Int) (idn : Int) (idl : Int → Int) (sp : Int) (pe : Int) (tin : Int → Int) (slp : Int) (late : Int) (srv : Int) (hv : Int → Int) (av : Int) (bd : Int) (sh : Int) (mL : Int → Int) (mB : Int → Int) (thr : Int) (way k9 : Int) (hnC : 1 ≤ nC ∧ nC ≤ 8) (hpar : ∀ c : Int, 1 ≤ c → c < nC → 0 ≤ par c ∧ par c < c) (huse : rgZ use 8 9) (hmrun : tfZ mrun) (hde : rgZ dee 8 3) (hvo : rgZ vo 6 3) (hpw : rgZ pw 4 1000) (hco : rgZ co 4 10000) (hla : rgZ la 4 100) (hidn : 0 ≤ idn ∧ idn ≤ 2000000) (hidl : rgZ idl 4 1000000) (hway : 0 ≤ way ∧ way ≤ 2) (hk9 : zR k9) : zMi l yX8_chooses wsX8_chooses rmX8_chooses (dC, dI) (zT cI cJ cZ) (wM cI cJ cZ q pw co la vo nC par div dee use mrun nT due lat wk nE tk ld rule now st asl idn idl sp pe tin slp late srv hv av bd sh mL mB thr) [.ref (q 0), .int (iI way), .int (iI k9)] (fun (r9 : Int) (_ : Unit) => r9 = chZ pw co la way (dzM vo par dee use nC) k9 (meM idl idn)) (fun _ : Unit => wM cI cJ cZ q pw co la vo nC par div dee use (rnZ par (nC - 1) (r0Z use 8 mrun)) nT due lat wk nE tk ld rule now st asl idn idl sp pe tin slp late srv hv av bd sh mL mB thr) 0 0 := by
  refine zent_i (cc := cX8_chooses) (maxL := 6) (ret := (some .int)) (by decide +kernel) rfl (Nat.le_of_ble_eq_true rfl) ?_
  intro p e s m below meth c A ls hE hP hK hA hD hS hl
  obtain ⟨hx, hb, hr, hml, hown, hts, hlocks, hmn⟩ := hE
  have hinX8 : ∀ w ∈ u_ws RX8 TX8 36, w ∈ wsX8_chooses := by decide +kernel
  have hl : lv_has ls 6 [(0, .ref (q 0)), (1, .int (iI way)), (2, .int (iI k9))] := hl
  refine z_gen (fun Q hQ => ?_)
  have hdz := dzM_r (par := par) (use := use) hvo hde hnC
  have hme : 0 ≤ meM idl idn ∧ meM idl idn ≤ 1000000000 := me_r hidl (by omega)
  refine lv_aload_n hx hb dX8_chooses_0 rfl (lv_at hl 0 rfl) ?_
  refine zc_i (va_runV (As := []) (rest := []) ⟨hx, hb, hml, hown, hts⟩ (kX8_deepestNow l dC dI cI cJ cZ q pw co la vo nC par div dee use mrun nT due lat wk nE tk ld rule now st asl idn idl sp pe tin slp late srv hv av bd sh mL mB thr (by first | assumption | omega | exact b2i_01 _) (by first | assumption | omega | exact b2i_01 _) (by first | assumption | omega | exact b2i_01 _) (by first | assumption | omega | exact b2i_01 _) (by first | assumption | omega | exact b2i_01 _) (by first | assumption | omega | exact b2i_01 _) s.heap.size) (cwV 0 hts gX8_chooses_X8_deepestNow rfl rfl rfl (by decide +kernel) ⟨Nat.le_of_ble_eq_true rfl, Nat.le_of_ble_eq_true rfl⟩) (zpV hK hP hD [0, 1, 2, 3, 4, 5, 6, 7, 8, 9, 10, 11, 12, 13, 14, 15, 16, 17, 18, 19] rfl rfl 0 rfl rfl) rfl rfl hl.1 rfl (lv_room (Nat.le_of_ble_eq_true rfl)) dX8_chooses_1 ⟨Nat.le_of_ble_eq_true rfl, Nat.le_of_ble_eq_true rfl⟩) hP hD hS hA [0, 1, 2, 3, 4, 5, 6, 7, 8, 9, 10, 11, 12, 13, 14, 15, 16, 17, 18, 19] [] rfl rfl rfl (by decide) (fun v_3 u_2 H locs r_1 hP hD hS => ?_)
  refine ze_i r_1 ?_
  have hP : va_P (dC, dI) vwCl (wM cI cJ cZ q pw co la vo nC par div dee use (rnZ par (nC - 1) (r0Z use 8 mrun)) nT due lat wk nE tk ld rule now st asl idn idl sp pe tin slp late srv hv av bd sh mL mB thr) H := hP
  have hD : va_D A (wM cI cJ cZ q pw co la vo nC par div dee use (rnZ par (nC - 1) (r0Z use 8 mrun)) nT due lat wk nE tk ld rule now st asl idn idl sp pe tin slp late srv hv av bd sh mL mB thr) := hD
  refine lv_istore_n (lv' := [(3, .int (iI (dzM vo par dee use nC))), (0, .ref (q 0)), (1, .int (iI way)), (2, .int (iI k9))]) hx hb dX8_chooses_4 rfl hl (by decide) rfl (fun ls hl => ?_)
  refine lv_iconst (v := iI 0) hx hb dX8_chooses_5 rfl ?_
  refine lv_istore (lv' := [(4, .int (iI 0)), (3, .int (iI (dzM vo par dee use nC))), (0, .ref (q 0)), (1, .int (iI way)), (2, .int (iI k9))]) hx hb dX8_chooses_6 hl (by decide) rfl (fun ls hl => ?_)
  have L8 : ∀ (fuel : Nat) (s9 : Int) (i9 : Int), (0 ≤ s9 ∧ s9 ≤ 3) → (i9 = 0 ∨ i9 = 1) → ((i9 = 0 ∧ chZ pw co la way (dzM vo par dee use nC) k9 (meM idl idn) = chZ pw co la way s9 k9 (meM idl idn)) ∨ (i9 = 1 ∧ chZ pw co la way (dzM vo par dee use nC) k9 (meM idl idn) = s9)) → ((2 * s9 + 1 - i9).toNat) < fuel → ∀ (H : Heap) (locs : List Loc), va_P (dC, dI) vwCl (wM cI cJ cZ q pw co la vo nC par div dee use (rnZ par (nC - 1) (r0Z use 8 mrun)) nT due lat wk nE tk ld rule now st asl idn idl sp pe tin slp late srv hv av bd sh mL mB thr) H → va_D A (wM cI cJ cZ q pw co la vo nC par div dee use (rnZ par (nC - 1) (r0Z use 8 mrun)) nT due lat wk nE tk ld rule now st asl idn idl sp pe tin slp late srv hv av bd sh mL mB thr) → va_S A s.heap H locs → ∀ ls : Array Slot, lv_has ls 6 [(4, .int (iI i9)), (3, .int (iI s9)), (0, .ref (q 0)), (1, .int (iI way)), (2, .int (iI k9))] → W p l e rmX8_chooses s m ([.ref (q 0), .int (iI way), .int (iI k9)] : List Value).toArray below meth c H locs 0 0 Q (F0 m 8 ls []) := by
    intro fuel
    induction fuel with
    | zero =>
      intro s9 i9 hs9 hi9 hI hmeas H locs hP hD hS ls hl
      exact absurd hmeas (by omega)
    | succ fuel ih =>
      intro s9 i9 hs9 hi9 hI hmeas H locs hP hD hS ls hl
      refine lv_iload_n hx hb dX8_chooses_8 rfl (lv_at hl 1 rfl) ?_
      refine zi_fle (tgt := 95) hx hb (by omega) dX8_chooses_9 (by decide) (fun c_4 => ?_) (fun c_4 => ?_)
      · skip
        refine lv_iload_n hx hb dX8_chooses_95 rfl (lv_at hl 1 rfl) ?_
        subst hQ
        exact zret_i (W1 := fun _ : Unit => wM cI cJ cZ q pw co la vo nC par div dee use (rnZ par (nC - 1) (r0Z use 8 mrun)) nT due lat wk nE tk ld rule now st asl idn idl sp pe tin slp late srv hv av bd sh mL mB thr) () hx hb hr hP hD hS hlocks dX8_chooses_96 (by rcases hI with h8 | h8; rw [h8.2, ch_0 (by omega)]; omega; omega)
      · skip
        refine lv_iload hx hb dX8_chooses_12 (lv_at hl 0 rfl) ?_
        refine zi_fne (tgt := 95) hx hb (by omega) dX8_chooses_14 (by decide) (fun c_5 => ?_) (fun c_5 => ?_)
        · skip
          refine lv_iload_n hx hb dX8_chooses_95 rfl (lv_at hl 1 rfl) ?_
          subst hQ
          exact zret_i (W1 := fun _ : Unit => wM cI cJ cZ q pw co la vo nC par div dee use (rnZ par (nC - 1) (r0Z use 8 mrun)) nT due lat wk nE tk ld rule now st asl idn idl sp pe tin slp late srv hv av bd sh mL mB thr) () hx hb hr hP hD hS hlocks dX8_chooses_96 (by rcases hI with h8 | h8; rw [h8.2, ch_0 (by omega)]; omega; omega)
        · skip
          have hI9 : chZ pw co la way (dzM vo par dee use nC) k9 (meM idl idn) = chZ pw co la way s9 k9 (meM idl idn) := by rcases hI with h8 | h8; exact h8.2; exact absurd h8.1 (by omega)
          refine lv_aload_n hx hb dX8_chooses_17 rfl (lv_at hl 2 rfl) ?_
          refine lv_iload_n hx hb dX8_chooses_18 rfl (lv_at hl 1 rfl) ?_
          refine zc_pi (va_runV (As := [.int (iI s9)]) (rest := []) ⟨hx, hb, hml, hown, hts⟩ (kX8_evenAt l dC dI cI cJ cZ q pw co la vo nC par div dee use (rnZ par (nC - 1) (r0Z use 8 mrun)) nT due lat wk nE tk ld rule now st asl idn idl sp pe tin slp late srv hv av bd sh mL mB thr s9 (by first | assumption | omega | exact b2i_01 _) (by first | assumption | omega | exact b2i_01 _) (by first | assumption | omega | exact b2i_01 _) (by first | assumption | omega | exact b2i_01 _)) (cwV 1 hts gX8_chooses_X8_evenAt rfl rfl rfl (by decide +kernel) ⟨Nat.le_of_ble_eq_true rfl, Nat.le_of_ble_eq_true rfl⟩) (zqV hK hP [0, 1, 2, 3, 4, 5, 6, 7, 8, 9, 10, 11, 12, 13, 14, 15, 16, 17, 18, 19] rfl 0 rfl rfl) rfl rfl hl.1 rfl (lv_room (Nat.le_of_ble_eq_true rfl)) dX8_chooses_19 ⟨Nat.le_of_ble_eq_true rfl, Nat.le_of_ble_eq_true rfl⟩) ?_
          have e_6 := evA_r (pw := pw) (s := s9) hco hla (by omega)
          refine lv_istore (lv' := [(5, .int (iI (evA pw co la s9))), (4, .int (iI i9)), (3, .int (iI s9)), (0, .ref (q 0)), (1, .int (iI way)), (2, .int (iI k9))]) hx hb dX8_chooses_22 hl (by decide) rfl (fun ls hl => ?_)
          refine lv_iload_n hx hb dX8_chooses_24 rfl (lv_at hl 4 rfl) ?_
          refine zi_fne (tgt := 46) hx hb (by omega) dX8_chooses_25 (by decide) (fun c_7 => ?_) (fun c_7 => ?_)
          · skip
            refine lv_iload hx hb dX8_chooses_46 (lv_at hl 0 rfl) ?_
            refine lv_iconst (v := iI (-1)) hx hb dX8_chooses_48 rfl ?_
            refine zi_ceq (tgt := 76) hx hb (by omega) (by decide) dX8_chooses_49 (by decide) (fun c_8 => ?_) (fun c_8 => ?_)
            · skip
              refine lv_iconst (v := iI 0) hx hb dX8_chooses_76 rfl ?_
              refine lv_istore (lv' := [(4, .int (iI 0)), (5, .int (iI (evA pw co la s9))), (3, .int (iI s9)), (0, .ref (q 0)), (1, .int (iI way)), (2, .int (iI k9))]) hx hb dX8_chooses_77 hl (by decide) rfl (fun ls hl => ?_)
              refine lv_iload_n hx hb dX8_chooses_79 rfl (lv_at hl 2 rfl) ?_
              refine lv_iload hx hb dX8_chooses_80 (lv_at hl 0 rfl) ?_
              refine zi_feq (tgt := 89) hx hb (by decide) dX8_chooses_82 (by decide) (fun c_9 => ?_) (fun c_9 => ?_)
              · skip
                refine lv_iconst (v := iI 1) hx hb dX8_chooses_89 rfl ?_
                refine zi_sub hx hb dX8_chooses_90 ?_
                refine lv_istore_n (lv' := [(3, .int (iI (s9 - 1))), (4, .int (iI 0)), (5, .int (iI (evA pw co la s9))), (0, .ref (q 0)), (1, .int (iI way)), (2, .int (iI k9))]) hx hb dX8_chooses_91 rfl hl (by decide) rfl (fun ls hl => ?_)
                refine lv_goto (tgt := 8) hx hb dX8_chooses_92 (by decide) ?_
                exact ih (s9 - 1) 0 (by omega) (by omega) (by first | (exact Or.inr ⟨rfl, by rw [hI9, ch_y (by omega) (by first | (rw [if_pos (by omega)]; omega) | (rw [if_neg (by omega)]; omega))]; omega⟩) | (exact Or.inl ⟨rfl, by rw [hI9, ch_n (by omega) (by first | (rw [if_pos (by omega)]; omega) | (rw [if_neg (by omega)]; omega))]⟩)) (by omega) H locs hP hD hS ls (lv_sub hl [1, 0, 3, 4, 5] rfl)
              · skip
                exact absurd c_9 (by decide)
            · skip
              refine lv_iload hx hb dX8_chooses_52 (lv_at hl 0 rfl) ?_
              refine lv_iload_n hx hb dX8_chooses_54 rfl (lv_at hl 5 rfl) ?_
              refine zi_cgt (tgt := 76) hx hb (by omega) (by omega) dX8_chooses_55 (by decide) (fun c_10 => ?_) (fun c_10 => ?_)
              · skip
                refine lv_iconst (v := iI 0) hx hb dX8_chooses_76 rfl ?_
                refine lv_istore (lv' := [(4, .int (iI 0)), (5, .int (iI (evA pw co la s9))), (3, .int (iI s9)), (0, .ref (q 0)), (1, .int (iI way)), (2, .int (iI k9))]) hx hb dX8_chooses_77 hl (by decide) rfl (fun ls hl => ?_)
                refine lv_iload_n hx hb dX8_chooses_79 rfl (lv_at hl 2 rfl) ?_
                refine lv_iload hx hb dX8_chooses_80 (lv_at hl 0 rfl) ?_
                refine zi_feq (tgt := 89) hx hb (by decide) dX8_chooses_82 (by decide) (fun c_11 => ?_) (fun c_11 => ?_)
                · skip
                  refine lv_iconst (v := iI 1) hx hb dX8_chooses_89 rfl ?_
                  refine zi_sub hx hb dX8_chooses_90 ?_
                  refine lv_istore_n (lv' := [(3, .int (iI (s9 - 1))), (4, .int (iI 0)), (5, .int (iI (evA pw co la s9))), (0, .ref (q 0)), (1, .int (iI way)), (2, .int (iI k9))]) hx hb dX8_chooses_91 rfl hl (by decide) rfl (fun ls hl => ?_)
                  refine lv_goto (tgt := 8) hx hb dX8_chooses_92 (by decide) ?_
                  exact ih (s9 - 1) 0 (by omega) (by omega) (by first | (exact Or.inr ⟨rfl, by rw [hI9, ch_y (by omega) (by first | (rw [if_pos (by omega)]; omega) | (rw [if_neg (by omega)]; omega))]; omega⟩) | (exact Or.inl ⟨rfl, by rw [hI9, ch_n (by omega) (by first | (rw [if_pos (by omega)]; omega) | (rw [if_neg (by omega)]; omega))]⟩)) (by omega) H locs hP hD hS ls (lv_sub hl [1, 0, 3, 4, 5] rfl)
                · skip
                  exact absurd c_11 (by decide)
              · skip
                refine lv_iload_n hx hb dX8_chooses_58 rfl (lv_at hl 4 rfl) ?_
                refine lv_iconst (v := iI 1) hx hb dX8_chooses_59 rfl ?_
                refine zi_ceq (tgt := 72) hx hb (by omega) (by decide) dX8_chooses_60 (by decide) (fun c_12 => ?_) (fun c_12 => ?_)
                · skip
                  refine lv_iconst (v := iI 1) hx hb dX8_chooses_72 rfl ?_
                  refine lv_goto (tgt := 77) hx hb dX8_chooses_73 (by decide) ?_
                  refine lv_istore (lv' := [(4, .int (iI 1)), (5, .int (iI (evA pw co la s9))), (3, .int (iI s9)), (0, .ref (q 0)), (1, .int (iI way)), (2, .int (iI k9))]) hx hb dX8_chooses_77 hl (by decide) rfl (fun ls hl => ?_)
                  refine lv_iload_n hx hb dX8_chooses_79 rfl (lv_at hl 2 rfl) ?_
                  refine lv_iload hx hb dX8_chooses_80 (lv_at hl 0 rfl) ?_
                  refine zi_feq (tgt := 89) hx hb (by decide) dX8_chooses_82 (by decide) (fun c_13 => ?_) (fun c_13 => ?_)
                  · skip
                    exact absurd c_13 (by decide)
                  · skip
                    refine lv_iconst (v := iI 0) hx hb dX8_chooses_85 rfl ?_
                    refine lv_goto (tgt := 90) hx hb dX8_chooses_86 (by decide) ?_
                    refine zi_sub hx hb dX8_chooses_90 ?_
                    refine lv_istore_n (lv' := [(3, .int (iI (s9 - 0))), (4, .int (iI 1)), (5, .int (iI (evA pw co la s9))), (0, .ref (q 0)), (1, .int (iI way)), (2, .int (iI k9))]) hx hb dX8_chooses_91 rfl hl (by decide) rfl (fun ls hl => ?_)
                    refine lv_goto (tgt := 8) hx hb dX8_chooses_92 (by decide) ?_
                    exact ih (s9 - 0) 1 (by omega) (by omega) (by first | (exact Or.inr ⟨rfl, by rw [hI9, ch_y (by omega) (by first | (rw [if_pos (by omega)]; omega) | (rw [if_neg (by omega)]; omega))]; omega⟩) | (exact Or.inl ⟨rfl, by rw [hI9, ch_n (by omega) (by first | (rw [if_pos (by omega)]; omega) | (rw [if_neg (by omega)]; omega))]⟩)) (by omega) H locs hP hD hS ls (lv_sub hl [1, 0, 3, 4, 5] rfl)
                · skip
                  refine lv_iload hx hb dX8_chooses_63 (lv_at hl 0 rfl) ?_
                  refine lv_aload_n hx hb dX8_chooses_65 rfl (lv_at hl 3 rfl) ?_
                  refine zc_pi (va_runV (As := []) (rest := [.int (iI (evA pw co la s9))]) ⟨hx, hb, hml, hown, hts⟩ (kX8_mean l dC dI cI cJ cZ q pw co la vo nC par div dee use (rnZ par (nC - 1) (r0Z use 8 mrun)) nT due lat wk nE tk ld rule now st asl idn idl sp pe tin slp late srv hv av bd sh mL mB thr (by first | assumption | omega | exact b2i_01 _) (by first | assumption | omega | exact b2i_01 _)) (cwV 0 hts gX8_chooses_X8_mean rfl rfl rfl (by decide +kernel) ⟨Nat.le_of_ble_eq_true rfl, Nat.le_of_ble_eq_true rfl⟩) (zqV hK hP [0, 1, 2, 3, 4, 5, 6, 7, 8, 9, 10, 11, 12, 13, 14, 15, 16, 17, 18, 19] rfl 0 rfl rfl) rfl rfl hl.1 rfl (lv_room (Nat.le_of_ble_eq_true rfl)) dX8_chooses_66 ⟨Nat.le_of_ble_eq_true rfl, Nat.le_of_ble_eq_true rfl⟩) ?_
                  refine zi_cgt (tgt := 76) hx hb (by omega) (by omega) dX8_chooses_69 (by decide) (fun c_14 => ?_) (fun c_14 => ?_)
                  · skip
                    refine lv_iconst (v := iI 0) hx hb dX8_chooses_76 rfl ?_
                    refine lv_istore (lv' := [(4, .int (iI 0)), (5, .int (iI (evA pw co la s9))), (3, .int (iI s9)), (0, .ref (q 0)), (1, .int (iI way)), (2, .int (iI k9))]) hx hb dX8_chooses_77 hl (by decide) rfl (fun ls hl => ?_)
                    refine lv_iload_n hx hb dX8_chooses_79 rfl (lv_at hl 2 rfl) ?_
                    refine lv_iload hx hb dX8_chooses_80 (lv_at hl 0 rfl) ?_
                    refine zi_feq (tgt := 89) hx hb (by decide) dX8_chooses_82 (by decide) (fun c_15 => ?_) (fun c_15 => ?_)
                    · skip
                      refine lv_iconst (v := iI 1) hx hb dX8_chooses_89 rfl ?_
                      refine zi_sub hx hb dX8_chooses_90 ?_
                      refine lv_istore_n (lv' := [(3, .int (iI (s9 - 1))), (4, .int (iI 0)), (5, .int (iI (evA pw co la s9))), (0, .ref (q 0)), (1, .int (iI way)), (2, .int (iI k9))]) hx hb dX8_chooses_91 rfl hl (by decide) rfl (fun ls hl => ?_)
                      refine lv_goto (tgt := 8) hx hb dX8_chooses_92 (by decide) ?_
                      exact ih (s9 - 1) 0 (by omega) (by omega) (by first | (exact Or.inr ⟨rfl, by rw [hI9, ch_y (by omega) (by first | (rw [if_pos (by omega)]; omega) | (rw [if_neg (by omega)]; omega))]; omega⟩) | (exact Or.inl ⟨rfl, by rw [hI9, ch_n (by omega) (by first | (rw [if_pos (by omega)]; omega) | (rw [if_neg (by omega)]; omega))]⟩)) (by omega) H locs hP hD hS ls (lv_sub hl [1, 0, 3, 4, 5] rfl)
                    · skip
                      exact absurd c_15 (by decide)
                  · skip
                    refine lv_iconst (v := iI 1) hx hb dX8_chooses_72 rfl ?_
                    refine lv_goto (tgt := 77) hx hb dX8_chooses_73 (by decide) ?_
                    refine lv_istore (lv' := [(4, .int (iI 1)), (5, .int (iI (evA pw co la s9))), (3, .int (iI s9)), (0, .ref (q 0)), (1, .int (iI way)), (2, .int (iI k9))]) hx hb dX8_chooses_77 hl (by decide) rfl (fun ls hl => ?_)
                    refine lv_iload_n hx hb dX8_chooses_79 rfl (lv_at hl 2 rfl) ?_
                    refine lv_iload hx hb dX8_chooses_80 (lv_at hl 0 rfl) ?_
                    refine zi_feq (tgt := 89) hx hb (by decide) dX8_chooses_82 (by decide) (fun c_16 => ?_) (fun c_16 => ?_)
                    · skip
                      exact absurd c_16 (by decide)
                    · skip
                      refine lv_iconst (v := iI 0) hx hb dX8_chooses_85 rfl ?_
                      refine lv_goto (tgt := 90) hx hb dX8_chooses_86 (by decide) ?_
                      refine zi_sub hx hb dX8_chooses_90 ?_
                      refine lv_istore_n (lv' := [(3, .int (iI (s9 - 0))), (4, .int (iI 1)), (5, .int (iI (evA pw co la s9))), (0, .ref (q 0)), (1, .int (iI way)), (2, .int (iI k9))]) hx hb dX8_chooses_91 rfl hl (by decide) rfl (fun ls hl => ?_)
                      refine lv_goto (tgt := 8) hx hb dX8_chooses_92 (by decide) ?_
                      exact ih (s9 - 0) 1 (by omega) (by omega) (by first | (exact Or.inr ⟨rfl, by rw [hI9, ch_y (by omega) (by first | (rw [if_pos (by omega)]; omega) | (rw [if_neg (by omega)]; omega))]; omega⟩) | (exact Or.inl ⟨rfl, by rw [hI9, ch_n (by omega) (by first | (rw [if_pos (by omega)]; omega) | (rw [if_neg (by omega)]; omega))]⟩)) (by omega) H locs hP hD hS ls (lv_sub hl [1, 0, 3, 4, 5] rfl)
          · skip
            refine lv_aload_n hx hb dX8_chooses_28 rfl (lv_at hl 3 rfl) ?_
            refine va_get (D := (dC, dI)) (ci := 8) (v := .ref (q 3)) (C := RX8) (T := TX8) (N := 36) hx hb hts hinX8 hown hK.1 hP 0 rfl rfl 2 (by decide) (hts _ (List.mem_of_getElem? (i := 1) rfl)) (fun _ h9 => h9) rfl dX8_chooses_29 ?_
            refine lv_iload_n hx hb dX8_chooses_32 rfl (lv_at hl 2 rfl) ?_
            refine za_ld hx hb hK hP 3 0 rfl rfl (by omega) (by omega) dX8_chooses_33 ?_
            have e_17 := hla s9 (by omega) (by omega)
            refine lv_iload_n hx hb dX8_chooses_34 rfl (lv_at hl 5 rfl) ?_
            refine zi_cgt (tgt := 42) hx hb (by omega) (by omega) dX8_chooses_35 (by decide) (fun c_18 => ?_) (fun c_18 => ?_)
            · skip
              refine lv_iconst (v := iI 0) hx hb dX8_chooses_42 rfl ?_
              refine lv_goto (tgt := 77) hx hb dX8_chooses_43 (by decide) ?_
              refine lv_istore (lv' := [(4, .int (iI 0)), (5, .int (iI (evA pw co la s9))), (3, .int (iI s9)), (0, .ref (q 0)), (1, .int (iI way)), (2, .int (iI k9))]) hx hb dX8_chooses_77 hl (by decide) rfl (fun ls hl => ?_)
              refine lv_iload_n hx hb dX8_chooses_79 rfl (lv_at hl 2 rfl) ?_
              refine lv_iload hx hb dX8_chooses_80 (lv_at hl 0 rfl) ?_
              refine zi_feq (tgt := 89) hx hb (by decide) dX8_chooses_82 (by decide) (fun c_19 => ?_) (fun c_19 => ?_)
              · skip
                refine lv_iconst (v := iI 1) hx hb dX8_chooses_89 rfl ?_
                refine zi_sub hx hb dX8_chooses_90 ?_
                refine lv_istore_n (lv' := [(3, .int (iI (s9 - 1))), (4, .int (iI 0)), (5, .int (iI (evA pw co la s9))), (0, .ref (q 0)), (1, .int (iI way)), (2, .int (iI k9))]) hx hb dX8_chooses_91 rfl hl (by decide) rfl (fun ls hl => ?_)
                refine lv_goto (tgt := 8) hx hb dX8_chooses_92 (by decide) ?_
                exact ih (s9 - 1) 0 (by omega) (by omega) (by first | (exact Or.inr ⟨rfl, by rw [hI9, ch_y (by omega) (by first | (rw [if_pos (by omega)]; omega) | (rw [if_neg (by omega)]; omega))]; omega⟩) | (exact Or.inl ⟨rfl, by rw [hI9, ch_n (by omega) (by first | (rw [if_pos (by omega)]; omega) | (rw [if_neg (by omega)]; omega))]⟩)) (by omega) H locs hP hD hS ls (lv_sub hl [1, 0, 3, 4, 5] rfl)
              · skip
                exact absurd c_19 (by decide)
            · skip
              refine lv_iconst (v := iI 1) hx hb dX8_chooses_38 rfl ?_
              refine lv_goto (tgt := 77) hx hb dX8_chooses_39 (by decide) ?_
              refine lv_istore (lv' := [(4, .int (iI 1)), (5, .int (iI (evA pw co la s9))), (3, .int (iI s9)), (0, .ref (q 0)), (1, .int (iI way)), (2, .int (iI k9))]) hx hb dX8_chooses_77 hl (by decide) rfl (fun ls hl => ?_)
              refine lv_iload_n hx hb dX8_chooses_79 rfl (lv_at hl 2 rfl) ?_
              refine lv_iload hx hb dX8_chooses_80 (lv_at hl 0 rfl) ?_
              refine zi_feq (tgt := 89) hx hb (by decide) dX8_chooses_82 (by decide) (fun c_20 => ?_) (fun c_20 => ?_)
              · skip
                exact absurd c_20 (by decide)
              · skip
                refine lv_iconst (v := iI 0) hx hb dX8_chooses_85 rfl ?_
                refine lv_goto (tgt := 90) hx hb dX8_chooses_86 (by decide) ?_
                refine zi_sub hx hb dX8_chooses_90 ?_
                refine lv_istore_n (lv' := [(3, .int (iI (s9 - 0))), (4, .int (iI 1)), (5, .int (iI (evA pw co la s9))), (0, .ref (q 0)), (1, .int (iI way)), (2, .int (iI k9))]) hx hb dX8_chooses_91 rfl hl (by decide) rfl (fun ls hl => ?_)
                refine lv_goto (tgt := 8) hx hb dX8_chooses_92 (by decide) ?_
                exact ih (s9 - 0) 1 (by omega) (by omega) (by first | (exact Or.inr ⟨rfl, by rw [hI9, ch_y (by omega) (by first | (rw [if_pos (by omega)]; omega) | (rw [if_neg (by omega)]; omega))]; omega⟩) | (exact Or.inl ⟨rfl, by rw [hI9, ch_n (by omega) (by first | (rw [if_pos (by omega)]; omega) | (rw [if_neg (by omega)]; omega))]⟩)) (by omega) H locs hP hD hS ls (lv_sub hl [1, 0, 3, 4, 5] rfl)
  exact L8 (_ + 1) (dzM vo par dee use nC) 0 (by omega) (by omega) (Or.inl ⟨rfl, rfl⟩) (Nat.lt_succ_self _) H locs hP hD hS ls (lv_sub hl [0, 1, 2, 3, 4] rfl)
def rmX8_governs : Room := { frames := 3, cells := 0, slots := 0, locals := 69 }
set_option maxRecDepth 100000 in
set_option maxHeartbeats 4000000 in
theorem kX8_governs (l : Launch) (dC : Nat → ClassId) (dI : Nat → Nat → Nat) (cI cJ cZ : ClassId) (q : Nat → Nat)  (pw : Int → Int) (co : Int → Int) (la : Int → Int) (vo : Int → Int) (nC : Int) (par : Int → Int) (div : Int → Int) (dee : Int → Int) (use : Int → Int) (mrun : Int → Int) (nT : Int) (due : Int → Int) (lat : Int → Int) (wk : Int → Int) (nE : Int) (tk : Int → Int) (ld : Int → Int) (rule : Int) (now : Int) (st : Int) (asl : Int) (idn : Int) (idl : Int → Int) (sp : Int) (pe : Int) (tin : Int → Int) (slp : Int) (late : Int) (srv : Int) (hv : Int → Int) (av : Int) (bd : Int) (sh : Int) (mL : Int → Int) (mB : Int → Int) (thr : Int) (hnC : 1 ≤ nC ∧ nC ≤ 8) (hpar : ∀ c : Int, 1 ≤ c → c < nC → 0 ≤ par c ∧ par c < c) (huse : rgZ use 8 9) (hmrun : tfZ mrun) (hde : rgZ dee 8 3) (hvo : rgZ vo 6 3) (hpw : rgZ pw 4 1000) (hco : rgZ co 4 10000) (hla : rgZ la 4 100) (hidn : 0 ≤ idn ∧ idn ≤ 2000000) (hidl : rgZ idl 4 1000000) (hnow : 0 ≤ now ∧ now ≤ 200000) (hnT : 0 ≤ nT ∧ nT ≤ 12) (htd : rgZ due 12 1000000) (htl : rgZ lat 12 1000000) (htw : rgZ wk 12 50) (hrl : 0 ≤ rule ∧ rule ≤ 2) (hst0 : st = 0) : zMv l yX8_governs wsX8_governs rmX8_governs (dC, dI) (zT cI cJ cZ) (wM cI cJ cZ q pw co la vo nC par div dee use mrun nT due lat wk nE tk ld rule now st asl idn idl sp pe tin slp late srv hv av bd sh mL mB thr) [.ref (q 0)] (fun (u9 : Int × Int × Int × Int × Int) => ((u9.1), (u9.2.1), (u9.2.2.1), (u9.2.2.2.1), (u9.2.2.2.2)) = faF co (chZ pw co la rule (dzM vo par dee use nC) (nxZ lat nT - now) (meM idl idn)) now st asl slp sp pe) (fun u9 : Int × Int × Int × Int × Int => wM cI cJ cZ q pw co la vo nC par div dee use (rnZ par (nC - 1) (r0Z use 8 mrun)) nT due lat wk nE tk ld rule now (u9.1) (u9.2.1) idn idl (u9.2.2.2.1) (u9.2.2.2.2) tin (u9.2.2.1) late srv hv av bd sh mL mB thr) 0 0 := by
  refine zent_v (cc := cX8_governs) (maxL := 2) (ret := none) (by decide +kernel) rfl (Nat.le_of_ble_eq_true rfl) ?_
  intro p e s m below meth c A ls hE hP hK hA hD hS hl
  obtain ⟨hx, hb, hr, hml, hown, hts, hlocks, hmn⟩ := hE
  have hinX8 : ∀ w ∈ u_ws RX8 TX8 36, w ∈ wsX8_governs := by decide +kernel
  have hl : lv_has ls 2 [(0, .ref (q 0))] := hl
  refine z_gen (fun Q hQ => ?_)
  have hx9 := nx_r htl hnT
  have hdz := dzM_r (par := par) (use := use) hvo hde hnC
  have hch := ch_r (pw := pw) (co := co) (la := la) (rule := rule) (k := nxZ lat nT - now) (mn := meM idl idn) hdz
  refine lv_aload_n hx hb dX8_governs_0 rfl (lv_at hl 0 rfl) ?_
  refine lv_aload_n hx hb dX8_governs_1 rfl (lv_at hl 0 rfl) ?_
  refine va_get (D := (dC, dI)) (ci := 8) (v := .int (iI rule)) (C := RX8) (T := TX8) (N := 36) hx hb hts hinX8 hown hK.1 hP 0 rfl rfl 17 (by decide) (hts _ (List.mem_of_getElem? (i := 1) rfl)) (fun _ h9 => h9) rfl dX8_governs_2 ?_
  refine lv_aload_n hx hb dX8_governs_5 rfl (lv_at hl 0 rfl) ?_
  refine zc_pi (va_runV (As := []) (rest := [.int (iI rule), .ref (q 0)]) ⟨hx, hb, hml, hown, hts⟩ (kX8_next l dC dI cI cJ cZ q pw co la vo nC par div dee use mrun nT due lat wk nE tk ld rule now st asl idn idl sp pe tin slp late srv hv av bd sh mL mB thr (by first | assumption | omega | exact b2i_01 _) (by first | assumption | omega | exact b2i_01 _) (by first | assumption | omega | exact b2i_01 _) (by first | assumption | omega | exact b2i_01 _)) (cwV 0 hts gX8_governs_X8_next rfl rfl rfl (by decide +kernel) ⟨Nat.le_of_ble_eq_true rfl, Nat.le_of_ble_eq_true rfl⟩) (zqV hK hP [0, 1, 2, 3, 4, 5, 6, 7, 8, 9, 10, 11, 12, 13, 14, 15, 16, 17, 18, 19] rfl 0 rfl rfl) rfl rfl hl.1 rfl (lv_room (Nat.le_of_ble_eq_true rfl)) dX8_governs_6 ⟨Nat.le_of_ble_eq_true rfl, Nat.le_of_ble_eq_true rfl⟩) ?_
  refine lv_aload_n hx hb dX8_governs_9 rfl (lv_at hl 0 rfl) ?_
  refine va_get (D := (dC, dI)) (ci := 8) (v := .int (iI now)) (C := RX8) (T := TX8) (N := 36) hx hb hts hinX8 hown hK.1 hP 0 rfl rfl 18 (by decide) (hts _ (List.mem_of_getElem? (i := 2) rfl)) (fun _ h9 => h9) rfl dX8_governs_10 ?_
  refine zi_sub hx hb dX8_governs_13 ?_
  refine zc_i (va_runV (As := [.int (iI rule), .int (iI ((nxZ lat nT) - now))]) (rest := []) ⟨hx, hb, hml, hown, hts⟩ (kX8_chooses l dC dI cI cJ cZ q pw co la vo nC par div dee use mrun nT due lat wk nE tk ld rule now st asl idn idl sp pe tin slp late srv hv av bd sh mL mB thr rule ((nxZ lat nT) - now) (by first | assumption | omega | exact b2i_01 _) (by first | assumption | omega | exact b2i_01 _) (by first | assumption | omega | exact b2i_01 _) (by first | assumption | omega | exact b2i_01 _) (by first | assumption | omega | exact b2i_01 _) (by first | assumption | omega | exact b2i_01 _) (by first | assumption | omega | exact b2i_01 _) (by first | assumption | omega | exact b2i_01 _) (by first | assumption | omega | exact b2i_01 _) (by first | assumption | omega | exact b2i_01 _) (by first | assumption | omega | exact b2i_01 _) (by first | assumption | omega | exact b2i_01 _) (by first | assumption | omega | exact b2i_01 _) s.heap.size) (cwV 2 hts gX8_governs_X8_chooses rfl rfl rfl (by decide +kernel) ⟨Nat.le_of_ble_eq_true rfl, Nat.le_of_ble_eq_true rfl⟩) (zpV hK hP hD [0, 1, 2, 3, 4, 5, 6, 7, 8, 9, 10, 11, 12, 13, 14, 15, 16, 17, 18, 19] rfl rfl 0 rfl rfl) rfl rfl hl.1 rfl (lv_room (Nat.le_of_ble_eq_true rfl)) dX8_governs_14 ⟨Nat.le_of_ble_eq_true rfl, Nat.le_of_ble_eq_true rfl⟩) hP hD hS hA [0, 1, 2, 3, 4, 5, 6, 7, 8, 9, 10, 11, 12, 13, 14, 15, 16, 17, 18, 19] [] rfl rfl rfl (by decide) (fun v_3 u_2 H locs r_1 hP hD hS => ?_)
  refine ze_i r_1 ?_
  have hP : va_P (dC, dI) vwCl (wM cI cJ cZ q pw co la vo nC par div dee use (rnZ par (nC - 1) (r0Z use 8 mrun)) nT due lat wk nE tk ld rule now st asl idn idl sp pe tin slp late srv hv av bd sh mL mB thr) H := hP
  have hD : va_D A (wM cI cJ cZ q pw co la vo nC par div dee use (rnZ par (nC - 1) (r0Z use 8 mrun)) nT due lat wk nE tk ld rule now st asl idn idl sp pe tin slp late srv hv av bd sh mL mB thr) := hD
  refine lv_istore_n (lv' := [(1, .int (iI (chZ pw co la rule (dzM vo par dee use nC) ((nxZ lat nT) - now) (meM idl idn)))), (0, .ref (q 0))]) hx hb dX8_governs_17 rfl hl (by decide) rfl (fun ls hl => ?_)
  refine lv_iload_n hx hb dX8_governs_18 rfl (lv_at hl 0 rfl) ?_
  refine zi_fle (tgt := 56) hx hb (by omega) dX8_governs_19 (by decide) (fun c_4 => ?_) (fun c_4 => ?_)
  · skip
    subst hQ
    exact zret_v (W1 := fun u9 : Int × Int × Int × Int × Int => wM cI cJ cZ q pw co la vo nC par div dee use (rnZ par (nC - 1) (r0Z use 8 mrun)) nT due lat wk nE tk ld rule now (u9.1) (u9.2.1) idn idl (u9.2.2.2.1) (u9.2.2.2.2) tin (u9.2.2.1) late srv hv av bd sh mL mB thr) (st, asl, slp, sp, pe) hx hb hr hP hD hS hlocks dX8_governs_56 (by unfold faF; first | (rw [if_pos (by omega)]; done) | (rw [if_neg (by omega)]; done))
  · skip
    refine lv_aload_n hx hb dX8_governs_22 rfl (lv_at hl 1 rfl) ?_
    refine lv_aload_n hx hb dX8_governs_23 rfl (lv_at hl 1 rfl) ?_
    refine va_get (D := (dC, dI)) (ci := 8) (v := .ref (q 2)) (C := RX8) (T := TX8) (N := 36) hx hb hts hinX8 hown hK.1 hP 0 rfl rfl 1 (by decide) (hts _ (List.mem_of_getElem? (i := 3) rfl)) (fun _ h9 => h9) rfl dX8_governs_24 ?_
    refine lv_iload_n hx hb dX8_governs_27 rfl (lv_at hl 0 rfl) ?_
    refine za_ld hx hb hK hP 2 0 rfl rfl (by omega) (by omega) dX8_governs_28 ?_
    have e_5 := hco (chZ pw co la rule (dzM vo par dee use nC) ((nxZ lat nT) - now) (meM idl idn)) (by omega) (by omega)
    refine zi_l hx hb (by omega) dX8_governs_29 ?_
    refine zc_v (va_runV (As := [.long (lI (co (chZ pw co la rule (dzM vo par dee use nC) ((nxZ lat nT) - now) (meM idl idn))))]) (rest := []) ⟨hx, hb, hml, hown, hts⟩ (kX8_spends l dC dI cI cJ cZ q pw co la vo nC par div dee use (rnZ par (nC - 1) (r0Z use 8 mrun)) nT due lat wk nE tk ld rule now st asl idn idl sp pe tin slp late srv hv av bd sh mL mB thr (co (chZ pw co la rule (dzM vo par dee use nC) ((nxZ lat nT) - now) (meM idl idn))) H.size) (cwV 1 hts gX8_governs_X8_spends rfl rfl rfl (by decide +kernel) ⟨Nat.le_of_ble_eq_true rfl, Nat.le_of_ble_eq_true rfl⟩) (zpV hK hP hD [0, 1, 2, 3, 4, 5, 6, 7, 8, 9, 10, 11, 12, 13, 14, 15, 16, 17, 18, 19] rfl rfl 0 rfl rfl) rfl rfl hl.1 rfl (lv_room (Nat.le_of_ble_eq_true rfl)) dX8_governs_30 ⟨Nat.le_of_ble_eq_true rfl, Nat.le_of_ble_eq_true rfl⟩) hP hD hS hA [0, 1, 2, 3, 4, 5, 6, 7, 8, 9, 10, 11, 12, 13, 14, 15, 16, 17, 18, 19] [] rfl rfl rfl (by decide) (fun u_7 H locs r_6 hP hD hS => ?_)
    have hP : va_P (dC, dI) vwCl (wM cI cJ cZ q pw co la vo nC par div dee use (rnZ par (nC - 1) (r0Z use 8 mrun)) nT due lat wk nE tk ld rule now st asl idn idl (sp + (co (chZ pw co la rule (dzM vo par dee use nC) ((nxZ lat nT) - now) (meM idl idn)))) (pe + (co (chZ pw co la rule (dzM vo par dee use nC) ((nxZ lat nT) - now) (meM idl idn)))) tin slp late srv hv av bd sh mL mB thr) H := hP
    have hD : va_D A (wM cI cJ cZ q pw co la vo nC par div dee use (rnZ par (nC - 1) (r0Z use 8 mrun)) nT due lat wk nE tk ld rule now st asl idn idl (sp + (co (chZ pw co la rule (dzM vo par dee use nC) ((nxZ lat nT) - now) (meM idl idn)))) (pe + (co (chZ pw co la rule (dzM vo par dee use nC) ((nxZ lat nT) - now) (meM idl idn)))) tin slp late srv hv av bd sh mL mB thr) := hD
    refine lv_aload_n hx hb dX8_governs_33 rfl (lv_at hl 1 rfl) ?_
    refine lv_iload_n hx hb dX8_governs_34 rfl (lv_at hl 0 rfl) ?_
    refine va_put (D := (dC, dI)) (ci := 8) (v := .int (iI (chZ pw co la rule (dzM vo par dee use nC) ((nxZ lat nT) - now) (meM idl idn)))) (ty := .int) (C := RX8) (T := TX8) (N := 36) hx hb hts hinX8 tyX8 tyX8_ok nmX8 hown hK.1 hP hD hS 0 rfl rfl 19 (by decide) (hts _ (List.mem_of_getElem? (i := 4) rfl)) (fun _ h9 => h9) rfl (by decide +kernel) rfl rfl (Nat.le_of_ble_eq_true rfl) dX8_governs_35 (fun H locs hP hD hS => ?_)
    have hP : va_P (dC, dI) vwCl (wM cI cJ cZ q pw co la vo nC par div dee use (rnZ par (nC - 1) (r0Z use 8 mrun)) nT due lat wk nE tk ld rule now (chZ pw co la rule (dzM vo par dee use nC) ((nxZ lat nT) - now) (meM idl idn)) asl idn idl (sp + (co (chZ pw co la rule (dzM vo par dee use nC) ((nxZ lat nT) - now) (meM idl idn)))) (pe + (co (chZ pw co la rule (dzM vo par dee use nC) ((nxZ lat nT) - now) (meM idl idn)))) tin slp late srv hv av bd sh mL mB thr) H := hP
    have hD : va_D A (wM cI cJ cZ q pw co la vo nC par div dee use (rnZ par (nC - 1) (r0Z use 8 mrun)) nT due lat wk nE tk ld rule now (chZ pw co la rule (dzM vo par dee use nC) ((nxZ lat nT) - now) (meM idl idn)) asl idn idl (sp + (co (chZ pw co la rule (dzM vo par dee use nC) ((nxZ lat nT) - now) (meM idl idn)))) (pe + (co (chZ pw co la rule (dzM vo par dee use nC) ((nxZ lat nT) - now) (meM idl idn)))) tin slp late srv hv av bd sh mL mB thr) := hD
    refine lv_aload_n hx hb dX8_governs_38 rfl (lv_at hl 1 rfl) ?_
    refine lv_aload_n hx hb dX8_governs_39 rfl (lv_at hl 1 rfl) ?_
    refine va_get (D := (dC, dI)) (ci := 8) (v := .int (iI now)) (C := RX8) (T := TX8) (N := 36) hx hb hts hinX8 hown hK.1 hP 0 rfl rfl 18 (by decide) (hts _ (List.mem_of_getElem? (i := 2) rfl)) (fun _ h9 => h9) rfl dX8_governs_40 ?_
    refine va_put (D := (dC, dI)) (ci := 8) (v := .int (iI now)) (ty := .int) (C := RX8) (T := TX8) (N := 36) hx hb hts hinX8 tyX8 tyX8_ok nmX8 hown hK.1 hP hD hS 0 rfl rfl 20 (by decide) (hts _ (List.mem_of_getElem? (i := 5) rfl)) (fun _ h9 => h9) rfl (by decide +kernel) rfl rfl (Nat.le_of_ble_eq_true rfl) dX8_governs_43 (fun H locs hP hD hS => ?_)
    have hP : va_P (dC, dI) vwCl (wM cI cJ cZ q pw co la vo nC par div dee use (rnZ par (nC - 1) (r0Z use 8 mrun)) nT due lat wk nE tk ld rule now (chZ pw co la rule (dzM vo par dee use nC) ((nxZ lat nT) - now) (meM idl idn)) now idn idl (sp + (co (chZ pw co la rule (dzM vo par dee use nC) ((nxZ lat nT) - now) (meM idl idn)))) (pe + (co (chZ pw co la rule (dzM vo par dee use nC) ((nxZ lat nT) - now) (meM idl idn)))) tin slp late srv hv av bd sh mL mB thr) H := hP
    have hD : va_D A (wM cI cJ cZ q pw co la vo nC par div dee use (rnZ par (nC - 1) (r0Z use 8 mrun)) nT due lat wk nE tk ld rule now (chZ pw co la rule (dzM vo par dee use nC) ((nxZ lat nT) - now) (meM idl idn)) now idn idl (sp + (co (chZ pw co la rule (dzM vo par dee use nC) ((nxZ lat nT) - now) (meM idl idn)))) (pe + (co (chZ pw co la rule (dzM vo par dee use nC) ((nxZ lat nT) - now) (meM idl idn)))) tin slp late srv hv av bd sh mL mB thr) := hD
    refine lv_aload_n hx hb dX8_governs_46 rfl (lv_at hl 1 rfl) ?_
    refine lv_dup hx hb dX8_governs_47 rfl ?_
    refine va_get (D := (dC, dI)) (ci := 8) (v := .int (iI slp)) (C := RX8) (T := TX8) (N := 36) hx hb hts hinX8 hown hK.1 hP 0 rfl rfl 26 (by decide) (hts _ (List.mem_of_getElem? (i := 6) rfl)) (fun _ h9 => h9) rfl dX8_governs_48 ?_
    refine lv_iconst (v := iI 1) hx hb dX8_governs_51 rfl ?_
    refine zi_add hx hb dX8_governs_52 ?_
    refine va_put (D := (dC, dI)) (ci := 8) (v := .int (iI (slp + 1))) (ty := .int) (C := RX8) (T := TX8) (N := 36) hx hb hts hinX8 tyX8 tyX8_ok nmX8 hown hK.1 hP hD hS 0 rfl rfl 26 (by decide) (hts _ (List.mem_of_getElem? (i := 6) rfl)) (fun _ h9 => h9) rfl (by decide +kernel) rfl rfl (Nat.le_of_ble_eq_true rfl) dX8_governs_53 (fun H locs hP hD hS => ?_)
    have hP : va_P (dC, dI) vwCl (wM cI cJ cZ q pw co la vo nC par div dee use (rnZ par (nC - 1) (r0Z use 8 mrun)) nT due lat wk nE tk ld rule now (chZ pw co la rule (dzM vo par dee use nC) ((nxZ lat nT) - now) (meM idl idn)) now idn idl (sp + (co (chZ pw co la rule (dzM vo par dee use nC) ((nxZ lat nT) - now) (meM idl idn)))) (pe + (co (chZ pw co la rule (dzM vo par dee use nC) ((nxZ lat nT) - now) (meM idl idn)))) tin (slp + 1) late srv hv av bd sh mL mB thr) H := hP
    have hD : va_D A (wM cI cJ cZ q pw co la vo nC par div dee use (rnZ par (nC - 1) (r0Z use 8 mrun)) nT due lat wk nE tk ld rule now (chZ pw co la rule (dzM vo par dee use nC) ((nxZ lat nT) - now) (meM idl idn)) now idn idl (sp + (co (chZ pw co la rule (dzM vo par dee use nC) ((nxZ lat nT) - now) (meM idl idn)))) (pe + (co (chZ pw co la rule (dzM vo par dee use nC) ((nxZ lat nT) - now) (meM idl idn)))) tin (slp + 1) late srv hv av bd sh mL mB thr) := hD
    subst hQ
    exact zret_v (W1 := fun u9 : Int × Int × Int × Int × Int => wM cI cJ cZ q pw co la vo nC par div dee use (rnZ par (nC - 1) (r0Z use 8 mrun)) nT due lat wk nE tk ld rule now (u9.1) (u9.2.1) idn idl (u9.2.2.2.1) (u9.2.2.2.2) tin (u9.2.2.1) late srv hv av bd sh mL mB thr) (chZ pw co la rule (dzM vo par dee use nC) ((nxZ lat nT) - now) (meM idl idn), now, slp + 1, sp + (co (chZ pw co la rule (dzM vo par dee use nC) ((nxZ lat nT) - now) (meM idl idn))), pe + (co (chZ pw co la rule (dzM vo par dee use nC) ((nxZ lat nT) - now) (meM idl idn)))) hx hb hr hP hD hS hlocks dX8_governs_56 (by unfold faF; first | (rw [if_pos (by omega)]; done) | (rw [if_neg (by omega)]; done))
def rmX8_down : Room := { frames := 0, cells := 0, slots := 0, locals := 0 }
set_option maxRecDepth 100000 in
set_option maxHeartbeats 4000000 in
theorem kX8_down (l : Launch) (dC : Nat → ClassId) (dI : Nat → Nat → Nat) (cI cJ cZ : ClassId)   (a b : Int) (ha : -1000000 ≤ a ∧ a ≤ 1000000) (hb16 : b = 16) : zPi l yX8_down wsX8_down rmX8_down (dC, dI) (zT cI cJ cZ) (wNO cI cJ cZ ) [.int (iI a), .int (iI b)] (a / b) := by
  refine zent_pi (cc := cX8_down) (maxL := 2) (ret := (some .int)) (by decide +kernel) rfl (Nat.le_of_ble_eq_true rfl) ?_
  intro p e s m below meth c ls hE hP hK hl
  obtain ⟨hx, hb, hr, hml, hown, hts, hlocks, hmn⟩ := hE
  have hl : lv_has ls 2 [(0, .int (iI a)), (1, .int (iI b))] := hl
  refine z_gen (fun Q hQ => ?_)
  refine lv_iload_n hx hb dX8_down_0 rfl (lv_at hl 0 rfl) ?_
  refine zi_flt (tgt := 10) hx hb (by omega) dX8_down_1 (by decide) (fun c_1 => ?_) (fun c_1 => ?_)
  · skip
    refine lv_iload_n hx hb dX8_down_10 rfl (lv_at hl 1 rfl) ?_
    refine lv_iconst (v := iI 1) hx hb dX8_down_11 rfl ?_
    refine zi_sub hx hb dX8_down_12 ?_
    refine lv_iload_n hx hb dX8_down_13 rfl (lv_at hl 0 rfl) ?_
    refine zi_sub hx hb dX8_down_14 ?_
    refine lv_iload_n hx hb dX8_down_15 rfl (lv_at hl 1 rfl) ?_
    refine zi_div hx hb (by omega) (by omega) dX8_down_16 ?_
    refine zi_neg hx hb dX8_down_17 ?_
    subst hQ
    exact zret_pi hx hb hr hlocks dX8_down_18 (by subst hb16; omega)
  · skip
    refine lv_iload_n hx hb dX8_down_4 rfl (lv_at hl 0 rfl) ?_
    refine lv_iload_n hx hb dX8_down_5 rfl (lv_at hl 1 rfl) ?_
    refine zi_div hx hb (by omega) (by omega) dX8_down_6 ?_
    refine lv_goto (tgt := 18) hx hb dX8_down_7 (by decide) ?_
    subst hQ
    exact zret_pi hx hb hr hlocks dX8_down_18 (by subst hb16; omega)
def rmX8_battery : Room := { frames := 1, cells := 0, slots := 0, locals := 21 }
set_option maxRecDepth 100000 in
set_option maxHeartbeats 4000000 in
theorem kX8_battery (l : Launch) (dC : Nat → ClassId) (dI : Nat → Nat → Nat) (cI cJ cZ : ClassId) (q : Nat → Nat)  (pw : Int → Int) (co : Int → Int) (la : Int → Int) (vo : Int → Int) (nC : Int) (par : Int → Int) (div : Int → Int) (dee : Int → Int) (use : Int → Int) (mrun : Int → Int) (nT : Int) (due : Int → Int) (lat : Int → Int) (wk : Int → Int) (nE : Int) (tk : Int → Int) (ld : Int → Int) (rule : Int) (now : Int) (st : Int) (asl : Int) (idn : Int) (idl : Int → Int) (sp : Int) (pe : Int) (tin : Int → Int) (slp : Int) (late : Int) (srv : Int) (hv : Int → Int) (av : Int) (bd : Int) (sh : Int) (mL : Int → Int) (mB : Int → Int) (thr : Int) (hnow : 0 ≤ now ∧ now ≤ 200000) (hav : 0 ≤ av ∧ av ≤ 50000) (hbd : 0 ≤ bd ∧ bd ≤ 100000) (hhv : rgZ hv 24 1000) (hpe : 0 ≤ pe ∧ pe ≤ 1000000000000000) : zMv l yX8_battery wsX8_battery rmX8_battery (dC, dI) (zT cI cJ cZ) (wM cI cJ cZ q pw co la vo nC par div dee use mrun nT due lat wk nE tk ld rule now st asl idn idl sp pe tin slp late srv hv av bd sh mL mB thr) [.ref (q 0)] (fun (_ : Unit) => True) (fun _ : Unit => wM cI cJ cZ q pw co la vo nC par div dee use mrun nT due lat wk nE tk ld rule now st asl idn idl sp 0 tin slp late srv hv (avZ av (hv (now / 60 % 24)) pe + flZ (avZ av (hv (now / 60 % 24)) pe) bd) (bd - flZ (avZ av (hv (now / 60 % 24)) pe) bd) (if av + hv (now / 60 % 24) - pe < 0 then sh + 1 else sh) mL mB thr) 0 0 := by
  refine zent_v (cc := cX8_battery) (maxL := 4) (ret := none) (by decide +kernel) rfl (Nat.le_of_ble_eq_true rfl) ?_
  intro p e s m below meth c A ls hE hP hK hA hD hS hl
  obtain ⟨hx, hb, hr, hml, hown, hts, hlocks, hmn⟩ := hE
  have hinX8 : ∀ w ∈ u_ws RX8 TX8 36, w ∈ wsX8_battery := by decide +kernel
  have hl : lv_has ls 4 [(0, .ref (q 0))] := hl
  refine z_gen (fun Q hQ => ?_)
  have hh9 := hhv (now / 60 % 24) (by omega) (by omega)
  have L81 : ∀ (a1 : Int) (s1 : Int), (a1 = avZ av (hv (now / 60 % 24)) pe) → (s1 = if av + hv (now / 60 % 24) - pe < 0 then sh + 1 else sh) → ∀ (H : Heap) (locs : List Loc), va_P (dC, dI) vwCl (wM cI cJ cZ q pw co la vo nC par div dee use mrun nT due lat wk nE tk ld rule now st asl idn idl sp 0 tin slp late srv hv a1 bd s1 mL mB thr) H → va_D A (wM cI cJ cZ q pw co la vo nC par div dee use mrun nT due lat wk nE tk ld rule now st asl idn idl sp 0 tin slp late srv hv a1 bd s1 mL mB thr) → va_S A s.heap H locs → ∀ ls : Array Slot, lv_has ls 4 [(0, .ref (q 0))] → W p l e rmX8_battery s m ([.ref (q 0)] : List Value).toArray below meth c H locs 0 0 Q (F0 m 81 ls []) := by
    intro a1 s1 ha1 hs1 H locs hP hD hS ls hl
    have hr1 := av_r av (hv (now / 60 % 24)) pe
    rw [← ha1] at hr1
    refine lv_aload_n hx hb dX8_battery_81 rfl (lv_at hl 0 rfl) ?_
    refine va_get (D := (dC, dI)) (ci := 8) (v := .int (iI bd)) (C := RX8) (T := TX8) (N := 36) hx hb hts hinX8 hown hK.1 hP 0 rfl rfl 31 (by decide) (hts _ (List.mem_of_getElem? (i := 8) rfl)) (fun _ h9 => h9) rfl dX8_battery_82 ?_
    refine lv_iconst (v := iI 2) hx hb dX8_battery_85 rfl ?_
    refine zi_div hx hb (by omega) (by omega) dX8_battery_86 ?_
    refine lv_aload_n hx hb dX8_battery_87 rfl (lv_at hl 0 rfl) ?_
    refine va_get (D := (dC, dI)) (ci := 8) (v := .int (iI a1)) (C := RX8) (T := TX8) (N := 36) hx hb hts hinX8 hown hK.1 hP 0 rfl rfl 30 (by decide) (hts _ (List.mem_of_getElem? (i := 1) rfl)) (fun _ h9 => h9) rfl dX8_battery_88 ?_
    refine zi_sub hx hb dX8_battery_91 ?_
    refine lv_bipush (v := iI 16) hx hb dX8_battery_92 (by decide) ?_
    refine zc_pi (va_runS (As := [.int (iI ((bd / 2) - a1)), .int (iI 16)]) (rest := []) ⟨hx, hb, hml, hown, hts⟩ (kX8_down l dC dI cI cJ cZ ((bd / 2) - a1) 16 (by first | assumption | omega | exact b2i_01 _) (by first | assumption | omega | exact b2i_01 _)) (va_cwS 2 hts gX8_battery_X8_down rfl rfl rfl (by decide +kernel) ⟨Nat.le_of_ble_eq_true rfl, Nat.le_of_ble_eq_true rfl⟩) (zqS hK hP [] rfl) rfl rfl hl.1 rfl (lv_room (Nat.le_of_ble_eq_true rfl)) dX8_battery_94 ⟨Nat.le_of_ble_eq_true rfl, Nat.le_of_ble_eq_true rfl⟩) ?_
    refine lv_istore_n (lv' := [(3, .int (iI (((bd / 2) - a1) / 16))), (0, .ref (q 0))]) hx hb dX8_battery_97 rfl hl (by decide) rfl (fun ls hl => ?_)
    refine lv_iload_n hx hb dX8_battery_98 rfl (lv_at hl 0 rfl) ?_
    refine zi_fle (tgt := 145) hx hb (by omega) dX8_battery_99 (by decide) (fun c_1 => ?_) (fun c_1 => ?_)
    · skip
      refine lv_iload_n hx hb dX8_battery_145 rfl (lv_at hl 0 rfl) ?_
      refine zi_neg hx hb dX8_battery_146 ?_
      refine lv_aload_n hx hb dX8_battery_147 rfl (lv_at hl 1 rfl) ?_
      refine va_get (D := (dC, dI)) (ci := 8) (v := .int (iI a1)) (C := RX8) (T := TX8) (N := 36) hx hb hts hinX8 hown hK.1 hP 0 rfl rfl 30 (by decide) (hts _ (List.mem_of_getElem? (i := 1) rfl)) (fun _ h9 => h9) rfl dX8_battery_148 ?_
      refine zi_cle (tgt := 162) hx hb (by omega) (by omega) dX8_battery_151 (by decide) (fun c_2 => ?_) (fun c_2 => ?_)
      · skip
        refine lv_iload_n hx hb dX8_battery_162 rfl (lv_at hl 0 rfl) ?_
        refine lv_istore_n (lv' := [(3, .int (iI (((bd / 2) - a1) / 16))), (0, .ref (q 0))]) hx hb dX8_battery_163 rfl hl (by decide) rfl (fun ls hl => ?_)
        refine lv_iload_n hx hb dX8_battery_164 rfl (lv_at hl 0 rfl) ?_
        refine zi_neg hx hb dX8_battery_165 ?_
        refine lv_ldc (v := iI 100000) hx hb hown (hts _ (List.mem_of_getElem? (i := 9) rfl)) dX8_battery_166 ?_
        refine lv_aload_n hx hb dX8_battery_168 rfl (lv_at hl 1 rfl) ?_
        refine va_get (D := (dC, dI)) (ci := 8) (v := .int (iI bd)) (C := RX8) (T := TX8) (N := 36) hx hb hts hinX8 hown hK.1 hP 0 rfl rfl 31 (by decide) (hts _ (List.mem_of_getElem? (i := 8) rfl)) (fun _ h9 => h9) rfl dX8_battery_169 ?_
        refine zi_sub hx hb dX8_battery_172 ?_
        refine zi_cle (tgt := 186) hx hb (by omega) (by omega) dX8_battery_173 (by decide) (fun c_3 => ?_) (fun c_3 => ?_)
        · skip
          refine lv_iload_n hx hb dX8_battery_186 rfl (lv_at hl 0 rfl) ?_
          refine lv_istore_n (lv' := [(3, .int (iI (((bd / 2) - a1) / 16))), (0, .ref (q 0))]) hx hb dX8_battery_187 rfl hl (by decide) rfl (fun ls hl => ?_)
          refine lv_aload_n hx hb dX8_battery_188 rfl (lv_at hl 1 rfl) ?_
          refine lv_dup hx hb dX8_battery_189 rfl ?_
          refine va_get (D := (dC, dI)) (ci := 8) (v := .int (iI a1)) (C := RX8) (T := TX8) (N := 36) hx hb hts hinX8 hown hK.1 hP 0 rfl rfl 30 (by decide) (hts _ (List.mem_of_getElem? (i := 1) rfl)) (fun _ h9 => h9) rfl dX8_battery_190 ?_
          refine lv_iload_n hx hb dX8_battery_193 rfl (lv_at hl 0 rfl) ?_
          refine zi_add hx hb dX8_battery_194 ?_
          refine va_put (D := (dC, dI)) (ci := 8) (v := .int (iI (a1 + (((bd / 2) - a1) / 16)))) (ty := .int) (C := RX8) (T := TX8) (N := 36) hx hb hts hinX8 tyX8 tyX8_ok nmX8 hown hK.1 hP hD hS 0 rfl rfl 30 (by decide) (hts _ (List.mem_of_getElem? (i := 1) rfl)) (fun _ h9 => h9) rfl (by decide +kernel) rfl rfl (Nat.le_of_ble_eq_true rfl) dX8_battery_195 (fun H locs hP hD hS => ?_)
          have hP : va_P (dC, dI) vwCl (wM cI cJ cZ q pw co la vo nC par div dee use mrun nT due lat wk nE tk ld rule now st asl idn idl sp 0 tin slp late srv hv (a1 + (((bd / 2) - a1) / 16)) bd s1 mL mB thr) H := hP
          have hD : va_D A (wM cI cJ cZ q pw co la vo nC par div dee use mrun nT due lat wk nE tk ld rule now st asl idn idl sp 0 tin slp late srv hv (a1 + (((bd / 2) - a1) / 16)) bd s1 mL mB thr) := hD
          refine lv_aload_n hx hb dX8_battery_198 rfl (lv_at hl 1 rfl) ?_
          refine lv_dup hx hb dX8_battery_199 rfl ?_
          refine va_get (D := (dC, dI)) (ci := 8) (v := .int (iI bd)) (C := RX8) (T := TX8) (N := 36) hx hb hts hinX8 hown hK.1 hP 0 rfl rfl 31 (by decide) (hts _ (List.mem_of_getElem? (i := 8) rfl)) (fun _ h9 => h9) rfl dX8_battery_200 ?_
          refine lv_iload_n hx hb dX8_battery_203 rfl (lv_at hl 0 rfl) ?_
          refine zi_sub hx hb dX8_battery_204 ?_
          refine va_put (D := (dC, dI)) (ci := 8) (v := .int (iI (bd - (((bd / 2) - a1) / 16)))) (ty := .int) (C := RX8) (T := TX8) (N := 36) hx hb hts hinX8 tyX8 tyX8_ok nmX8 hown hK.1 hP hD hS 0 rfl rfl 31 (by decide) (hts _ (List.mem_of_getElem? (i := 8) rfl)) (fun _ h9 => h9) rfl (by decide +kernel) rfl rfl (Nat.le_of_ble_eq_true rfl) dX8_battery_205 (fun H locs hP hD hS => ?_)
          have hP : va_P (dC, dI) vwCl (wM cI cJ cZ q pw co la vo nC par div dee use mrun nT due lat wk nE tk ld rule now st asl idn idl sp 0 tin slp late srv hv (a1 + (((bd / 2) - a1) / 16)) (bd - (((bd / 2) - a1) / 16)) s1 mL mB thr) H := hP
          have hD : va_D A (wM cI cJ cZ q pw co la vo nC par div dee use mrun nT due lat wk nE tk ld rule now st asl idn idl sp 0 tin slp late srv hv (a1 + (((bd / 2) - a1) / 16)) (bd - (((bd / 2) - a1) / 16)) s1 mL mB thr) := hD
          subst hQ
          have w_4 : (avZ av (hv (now / 60 % 24)) pe + flZ (avZ av (hv (now / 60 % 24)) pe) bd) = (a1 + (((bd / 2) - a1) / 16)) := by rw [← ha1]; unfold flZ; split <;> omega
          have w_5 : (bd - flZ (avZ av (hv (now / 60 % 24)) pe) bd) = (bd - (((bd / 2) - a1) / 16)) := by rw [← ha1]; unfold flZ; split <;> omega
          have w_6 : (if av + hv (now / 60 % 24) - pe < 0 then sh + 1 else sh) = s1 := by exact hs1.symm
          have hP : va_P (dC, dI) vwCl (wM cI cJ cZ q pw co la vo nC par div dee use mrun nT due lat wk nE tk ld rule now st asl idn idl sp 0 tin slp late srv hv (avZ av (hv (now / 60 % 24)) pe + flZ (avZ av (hv (now / 60 % 24)) pe) bd) (bd - flZ (avZ av (hv (now / 60 % 24)) pe) bd) (if av + hv (now / 60 % 24) - pe < 0 then sh + 1 else sh) mL mB thr) H := by rw [w_4, w_5, w_6]; exact hP
          have hD : va_D A (wM cI cJ cZ q pw co la vo nC par div dee use mrun nT due lat wk nE tk ld rule now st asl idn idl sp 0 tin slp late srv hv (avZ av (hv (now / 60 % 24)) pe + flZ (avZ av (hv (now / 60 % 24)) pe) bd) (bd - flZ (avZ av (hv (now / 60 % 24)) pe) bd) (if av + hv (now / 60 % 24) - pe < 0 then sh + 1 else sh) mL mB thr) := by rw [w_4, w_5, w_6]; exact hD
          exact zret_v (W1 := fun _ : Unit => wM cI cJ cZ q pw co la vo nC par div dee use mrun nT due lat wk nE tk ld rule now st asl idn idl sp 0 tin slp late srv hv (avZ av (hv (now / 60 % 24)) pe + flZ (avZ av (hv (now / 60 % 24)) pe) bd) (bd - flZ (avZ av (hv (now / 60 % 24)) pe) bd) (if av + hv (now / 60 % 24) - pe < 0 then sh + 1 else sh) mL mB thr) () hx hb hr hP hD hS hlocks dX8_battery_208 (by trivial)
        · skip
          refine lv_aload_n hx hb dX8_battery_176 rfl (lv_at hl 1 rfl) ?_
          refine va_get (D := (dC, dI)) (ci := 8) (v := .int (iI bd)) (C := RX8) (T := TX8) (N := 36) hx hb hts hinX8 hown hK.1 hP 0 rfl rfl 31 (by decide) (hts _ (List.mem_of_getElem? (i := 8) rfl)) (fun _ h9 => h9) rfl dX8_battery_177 ?_
          refine lv_ldc (v := iI 100000) hx hb hown (hts _ (List.mem_of_getElem? (i := 9) rfl)) dX8_battery_180 ?_
          refine zi_sub hx hb dX8_battery_182 ?_
          refine lv_goto (tgt := 187) hx hb dX8_battery_183 (by decide) ?_
          refine lv_istore_n (lv' := [(3, .int (iI (bd - 100000))), (0, .ref (q 0))]) hx hb dX8_battery_187 rfl hl (by decide) rfl (fun ls hl => ?_)
          refine lv_aload_n hx hb dX8_battery_188 rfl (lv_at hl 1 rfl) ?_
          refine lv_dup hx hb dX8_battery_189 rfl ?_
          refine va_get (D := (dC, dI)) (ci := 8) (v := .int (iI a1)) (C := RX8) (T := TX8) (N := 36) hx hb hts hinX8 hown hK.1 hP 0 rfl rfl 30 (by decide) (hts _ (List.mem_of_getElem? (i := 1) rfl)) (fun _ h9 => h9) rfl dX8_battery_190 ?_
          refine lv_iload_n hx hb dX8_battery_193 rfl (lv_at hl 0 rfl) ?_
          refine zi_add hx hb dX8_battery_194 ?_
          refine va_put (D := (dC, dI)) (ci := 8) (v := .int (iI (a1 + (bd - 100000)))) (ty := .int) (C := RX8) (T := TX8) (N := 36) hx hb hts hinX8 tyX8 tyX8_ok nmX8 hown hK.1 hP hD hS 0 rfl rfl 30 (by decide) (hts _ (List.mem_of_getElem? (i := 1) rfl)) (fun _ h9 => h9) rfl (by decide +kernel) rfl rfl (Nat.le_of_ble_eq_true rfl) dX8_battery_195 (fun H locs hP hD hS => ?_)
          have hP : va_P (dC, dI) vwCl (wM cI cJ cZ q pw co la vo nC par div dee use mrun nT due lat wk nE tk ld rule now st asl idn idl sp 0 tin slp late srv hv (a1 + (bd - 100000)) bd s1 mL mB thr) H := hP
          have hD : va_D A (wM cI cJ cZ q pw co la vo nC par div dee use mrun nT due lat wk nE tk ld rule now st asl idn idl sp 0 tin slp late srv hv (a1 + (bd - 100000)) bd s1 mL mB thr) := hD
          refine lv_aload_n hx hb dX8_battery_198 rfl (lv_at hl 1 rfl) ?_
          refine lv_dup hx hb dX8_battery_199 rfl ?_
          refine va_get (D := (dC, dI)) (ci := 8) (v := .int (iI bd)) (C := RX8) (T := TX8) (N := 36) hx hb hts hinX8 hown hK.1 hP 0 rfl rfl 31 (by decide) (hts _ (List.mem_of_getElem? (i := 8) rfl)) (fun _ h9 => h9) rfl dX8_battery_200 ?_
          refine lv_iload_n hx hb dX8_battery_203 rfl (lv_at hl 0 rfl) ?_
          refine zi_sub hx hb dX8_battery_204 ?_
          refine va_put (D := (dC, dI)) (ci := 8) (v := .int (iI (bd - (bd - 100000)))) (ty := .int) (C := RX8) (T := TX8) (N := 36) hx hb hts hinX8 tyX8 tyX8_ok nmX8 hown hK.1 hP hD hS 0 rfl rfl 31 (by decide) (hts _ (List.mem_of_getElem? (i := 8) rfl)) (fun _ h9 => h9) rfl (by decide +kernel) rfl rfl (Nat.le_of_ble_eq_true rfl) dX8_battery_205 (fun H locs hP hD hS => ?_)
          have hP : va_P (dC, dI) vwCl (wM cI cJ cZ q pw co la vo nC par div dee use mrun nT due lat wk nE tk ld rule now st asl idn idl sp 0 tin slp late srv hv (a1 + (bd - 100000)) (bd - (bd - 100000)) s1 mL mB thr) H := hP
          have hD : va_D A (wM cI cJ cZ q pw co la vo nC par div dee use mrun nT due lat wk nE tk ld rule now st asl idn idl sp 0 tin slp late srv hv (a1 + (bd - 100000)) (bd - (bd - 100000)) s1 mL mB thr) := hD
          subst hQ
          have w_7 : (avZ av (hv (now / 60 % 24)) pe + flZ (avZ av (hv (now / 60 % 24)) pe) bd) = (a1 + (bd - 100000)) := by rw [← ha1]; unfold flZ; split <;> omega
          have w_8 : (bd - flZ (avZ av (hv (now / 60 % 24)) pe) bd) = (bd - (bd - 100000)) := by rw [← ha1]; unfold flZ; split <;> omega
          have w_9 : (if av + hv (now / 60 % 24) - pe < 0 then sh + 1 else sh) = s1 := by exact hs1.symm
          have hP : va_P (dC, dI) vwCl (wM cI cJ cZ q pw co la vo nC par div dee use mrun nT due lat wk nE tk ld rule now st asl idn idl sp 0 tin slp late srv hv (avZ av (hv (now / 60 % 24)) pe + flZ (avZ av (hv (now / 60 % 24)) pe) bd) (bd - flZ (avZ av (hv (now / 60 % 24)) pe) bd) (if av + hv (now / 60 % 24) - pe < 0 then sh + 1 else sh) mL mB thr) H := by rw [w_7, w_8, w_9]; exact hP
          have hD : va_D A (wM cI cJ cZ q pw co la vo nC par div dee use mrun nT due lat wk nE tk ld rule now st asl idn idl sp 0 tin slp late srv hv (avZ av (hv (now / 60 % 24)) pe + flZ (avZ av (hv (now / 60 % 24)) pe) bd) (bd - flZ (avZ av (hv (now / 60 % 24)) pe) bd) (if av + hv (now / 60 % 24) - pe < 0 then sh + 1 else sh) mL mB thr) := by rw [w_7, w_8, w_9]; exact hD
          exact zret_v (W1 := fun _ : Unit => wM cI cJ cZ q pw co la vo nC par div dee use mrun nT due lat wk nE tk ld rule now st asl idn idl sp 0 tin slp late srv hv (avZ av (hv (now / 60 % 24)) pe + flZ (avZ av (hv (now / 60 % 24)) pe) bd) (bd - flZ (avZ av (hv (now / 60 % 24)) pe) bd) (if av + hv (now / 60 % 24) - pe < 0 then sh + 1 else sh) mL mB thr) () hx hb hr hP hD hS hlocks dX8_battery_208 (by trivial)
      · skip
        refine lv_aload_n hx hb dX8_battery_154 rfl (lv_at hl 1 rfl) ?_
        refine va_get (D := (dC, dI)) (ci := 8) (v := .int (iI a1)) (C := RX8) (T := TX8) (N := 36) hx hb hts hinX8 hown hK.1 hP 0 rfl rfl 30 (by decide) (hts _ (List.mem_of_getElem? (i := 1) rfl)) (fun _ h9 => h9) rfl dX8_battery_155 ?_
        refine zi_neg hx hb dX8_battery_158 ?_
        refine lv_goto (tgt := 163) hx hb dX8_battery_159 (by decide) ?_
        refine lv_istore_n (lv' := [(3, .int (iI (-a1))), (0, .ref (q 0))]) hx hb dX8_battery_163 rfl hl (by decide) rfl (fun ls hl => ?_)
        refine lv_iload_n hx hb dX8_battery_164 rfl (lv_at hl 0 rfl) ?_
        refine zi_neg hx hb dX8_battery_165 ?_
        refine lv_ldc (v := iI 100000) hx hb hown (hts _ (List.mem_of_getElem? (i := 9) rfl)) dX8_battery_166 ?_
        refine lv_aload_n hx hb dX8_battery_168 rfl (lv_at hl 1 rfl) ?_
        refine va_get (D := (dC, dI)) (ci := 8) (v := .int (iI bd)) (C := RX8) (T := TX8) (N := 36) hx hb hts hinX8 hown hK.1 hP 0 rfl rfl 31 (by decide) (hts _ (List.mem_of_getElem? (i := 8) rfl)) (fun _ h9 => h9) rfl dX8_battery_169 ?_
        refine zi_sub hx hb dX8_battery_172 ?_
        refine zi_cle (tgt := 186) hx hb (by omega) (by omega) dX8_battery_173 (by decide) (fun c_10 => ?_) (fun c_10 => ?_)
        · skip
          refine lv_iload_n hx hb dX8_battery_186 rfl (lv_at hl 0 rfl) ?_
          refine lv_istore_n (lv' := [(3, .int (iI (-a1))), (0, .ref (q 0))]) hx hb dX8_battery_187 rfl hl (by decide) rfl (fun ls hl => ?_)
          refine lv_aload_n hx hb dX8_battery_188 rfl (lv_at hl 1 rfl) ?_
          refine lv_dup hx hb dX8_battery_189 rfl ?_
          refine va_get (D := (dC, dI)) (ci := 8) (v := .int (iI a1)) (C := RX8) (T := TX8) (N := 36) hx hb hts hinX8 hown hK.1 hP 0 rfl rfl 30 (by decide) (hts _ (List.mem_of_getElem? (i := 1) rfl)) (fun _ h9 => h9) rfl dX8_battery_190 ?_
          refine lv_iload_n hx hb dX8_battery_193 rfl (lv_at hl 0 rfl) ?_
          refine zi_add hx hb dX8_battery_194 ?_
          refine va_put (D := (dC, dI)) (ci := 8) (v := .int (iI (a1 + (-a1)))) (ty := .int) (C := RX8) (T := TX8) (N := 36) hx hb hts hinX8 tyX8 tyX8_ok nmX8 hown hK.1 hP hD hS 0 rfl rfl 30 (by decide) (hts _ (List.mem_of_getElem? (i := 1) rfl)) (fun _ h9 => h9) rfl (by decide +kernel) rfl rfl (Nat.le_of_ble_eq_true rfl) dX8_battery_195 (fun H locs hP hD hS => ?_)
          have hP : va_P (dC, dI) vwCl (wM cI cJ cZ q pw co la vo nC par div dee use mrun nT due lat wk nE tk ld rule now st asl idn idl sp 0 tin slp late srv hv (a1 + (-a1)) bd s1 mL mB thr) H := hP
          have hD : va_D A (wM cI cJ cZ q pw co la vo nC par div dee use mrun nT due lat wk nE tk ld rule now st asl idn idl sp 0 tin slp late srv hv (a1 + (-a1)) bd s1 mL mB thr) := hD
          refine lv_aload_n hx hb dX8_battery_198 rfl (lv_at hl 1 rfl) ?_
          refine lv_dup hx hb dX8_battery_199 rfl ?_
          refine va_get (D := (dC, dI)) (ci := 8) (v := .int (iI bd)) (C := RX8) (T := TX8) (N := 36) hx hb hts hinX8 hown hK.1 hP 0 rfl rfl 31 (by decide) (hts _ (List.mem_of_getElem? (i := 8) rfl)) (fun _ h9 => h9) rfl dX8_battery_200 ?_
          refine lv_iload_n hx hb dX8_battery_203 rfl (lv_at hl 0 rfl) ?_
          refine zi_sub hx hb dX8_battery_204 ?_
          refine va_put (D := (dC, dI)) (ci := 8) (v := .int (iI (bd - (-a1)))) (ty := .int) (C := RX8) (T := TX8) (N := 36) hx hb hts hinX8 tyX8 tyX8_ok nmX8 hown hK.1 hP hD hS 0 rfl rfl 31 (by decide) (hts _ (List.mem_of_getElem? (i := 8) rfl)) (fun _ h9 => h9) rfl (by decide +kernel) rfl rfl (Nat.le_of_ble_eq_true rfl) dX8_battery_205 (fun H locs hP hD hS => ?_)
          have hP : va_P (dC, dI) vwCl (wM cI cJ cZ q pw co la vo nC par div dee use mrun nT due lat wk nE tk ld rule now st asl idn idl sp 0 tin slp late srv hv (a1 + (-a1)) (bd - (-a1)) s1 mL mB thr) H := hP
          have hD : va_D A (wM cI cJ cZ q pw co la vo nC par div dee use mrun nT due lat wk nE tk ld rule now st asl idn idl sp 0 tin slp late srv hv (a1 + (-a1)) (bd - (-a1)) s1 mL mB thr) := hD
          subst hQ
          have w_11 : (avZ av (hv (now / 60 % 24)) pe + flZ (avZ av (hv (now / 60 % 24)) pe) bd) = (a1 + (-a1)) := by rw [← ha1]; unfold flZ; split <;> omega
          have w_12 : (bd - flZ (avZ av (hv (now / 60 % 24)) pe) bd) = (bd - (-a1)) := by rw [← ha1]; unfold flZ; split <;> omega
          have w_13 : (if av + hv (now / 60 % 24) - pe < 0 then sh + 1 else sh) = s1 := by exact hs1.symm
          have hP : va_P (dC, dI) vwCl (wM cI cJ cZ q pw co la vo nC par div dee use mrun nT due lat wk nE tk ld rule now st asl idn idl sp 0 tin slp late srv hv (avZ av (hv (now / 60 % 24)) pe + flZ (avZ av (hv (now / 60 % 24)) pe) bd) (bd - flZ (avZ av (hv (now / 60 % 24)) pe) bd) (if av + hv (now / 60 % 24) - pe < 0 then sh + 1 else sh) mL mB thr) H := by rw [w_11, w_12, w_13]; exact hP
          have hD : va_D A (wM cI cJ cZ q pw co la vo nC par div dee use mrun nT due lat wk nE tk ld rule now st asl idn idl sp 0 tin slp late srv hv (avZ av (hv (now / 60 % 24)) pe + flZ (avZ av (hv (now / 60 % 24)) pe) bd) (bd - flZ (avZ av (hv (now / 60 % 24)) pe) bd) (if av + hv (now / 60 % 24) - pe < 0 then sh + 1 else sh) mL mB thr) := by rw [w_11, w_12, w_13]; exact hD
          exact zret_v (W1 := fun _ : Unit => wM cI cJ cZ q pw co la vo nC par div dee use mrun nT due lat wk nE tk ld rule now st asl idn idl sp 0 tin slp late srv hv (avZ av (hv (now / 60 % 24)) pe + flZ (avZ av (hv (now / 60 % 24)) pe) bd) (bd - flZ (avZ av (hv (now / 60 % 24)) pe) bd) (if av + hv (now / 60 % 24) - pe < 0 then sh + 1 else sh) mL mB thr) () hx hb hr hP hD hS hlocks dX8_battery_208 (by trivial)
        · skip
          refine lv_aload_n hx hb dX8_battery_176 rfl (lv_at hl 1 rfl) ?_
          refine va_get (D := (dC, dI)) (ci := 8) (v := .int (iI bd)) (C := RX8) (T := TX8) (N := 36) hx hb hts hinX8 hown hK.1 hP 0 rfl rfl 31 (by decide) (hts _ (List.mem_of_getElem? (i := 8) rfl)) (fun _ h9 => h9) rfl dX8_battery_177 ?_
          refine lv_ldc (v := iI 100000) hx hb hown (hts _ (List.mem_of_getElem? (i := 9) rfl)) dX8_battery_180 ?_
          refine zi_sub hx hb dX8_battery_182 ?_
          refine lv_goto (tgt := 187) hx hb dX8_battery_183 (by decide) ?_
          refine lv_istore_n (lv' := [(3, .int (iI (bd - 100000))), (0, .ref (q 0))]) hx hb dX8_battery_187 rfl hl (by decide) rfl (fun ls hl => ?_)
          refine lv_aload_n hx hb dX8_battery_188 rfl (lv_at hl 1 rfl) ?_
          refine lv_dup hx hb dX8_battery_189 rfl ?_
          refine va_get (D := (dC, dI)) (ci := 8) (v := .int (iI a1)) (C := RX8) (T := TX8) (N := 36) hx hb hts hinX8 hown hK.1 hP 0 rfl rfl 30 (by decide) (hts _ (List.mem_of_getElem? (i := 1) rfl)) (fun _ h9 => h9) rfl dX8_battery_190 ?_
          refine lv_iload_n hx hb dX8_battery_193 rfl (lv_at hl 0 rfl) ?_
          refine zi_add hx hb dX8_battery_194 ?_
          refine va_put (D := (dC, dI)) (ci := 8) (v := .int (iI (a1 + (bd - 100000)))) (ty := .int) (C := RX8) (T := TX8) (N := 36) hx hb hts hinX8 tyX8 tyX8_ok nmX8 hown hK.1 hP hD hS 0 rfl rfl 30 (by decide) (hts _ (List.mem_of_getElem? (i := 1) rfl)) (fun _ h9 => h9) rfl (by decide +kernel) rfl rfl (Nat.le_of_ble_eq_true rfl) dX8_battery_195 (fun H locs hP hD hS => ?_)
          have hP : va_P (dC, dI) vwCl (wM cI cJ cZ q pw co la vo nC par div dee use mrun nT due lat wk nE tk ld rule now st asl idn idl sp 0 tin slp late srv hv (a1 + (bd - 100000)) bd s1 mL mB thr) H := hP
          have hD : va_D A (wM cI cJ cZ q pw co la vo nC par div dee use mrun nT due lat wk nE tk ld rule now st asl idn idl sp 0 tin slp late srv hv (a1 + (bd - 100000)) bd s1 mL mB thr) := hD
          refine lv_aload_n hx hb dX8_battery_198 rfl (lv_at hl 1 rfl) ?_
          refine lv_dup hx hb dX8_battery_199 rfl ?_
          refine va_get (D := (dC, dI)) (ci := 8) (v := .int (iI bd)) (C := RX8) (T := TX8) (N := 36) hx hb hts hinX8 hown hK.1 hP 0 rfl rfl 31 (by decide) (hts _ (List.mem_of_getElem? (i := 8) rfl)) (fun _ h9 => h9) rfl dX8_battery_200 ?_
          refine lv_iload_n hx hb dX8_battery_203 rfl (lv_at hl 0 rfl) ?_
          refine zi_sub hx hb dX8_battery_204 ?_
          refine va_put (D := (dC, dI)) (ci := 8) (v := .int (iI (bd - (bd - 100000)))) (ty := .int) (C := RX8) (T := TX8) (N := 36) hx hb hts hinX8 tyX8 tyX8_ok nmX8 hown hK.1 hP hD hS 0 rfl rfl 31 (by decide) (hts _ (List.mem_of_getElem? (i := 8) rfl)) (fun _ h9 => h9) rfl (by decide +kernel) rfl rfl (Nat.le_of_ble_eq_true rfl) dX8_battery_205 (fun H locs hP hD hS => ?_)
          have hP : va_P (dC, dI) vwCl (wM cI cJ cZ q pw co la vo nC par div dee use mrun nT due lat wk nE tk ld rule now st asl idn idl sp 0 tin slp late srv hv (a1 + (bd - 100000)) (bd - (bd - 100000)) s1 mL mB thr) H := hP
          have hD : va_D A (wM cI cJ cZ q pw co la vo nC par div dee use mrun nT due lat wk nE tk ld rule now st asl idn idl sp 0 tin slp late srv hv (a1 + (bd - 100000)) (bd - (bd - 100000)) s1 mL mB thr) := hD
          subst hQ
          have w_14 : (avZ av (hv (now / 60 % 24)) pe + flZ (avZ av (hv (now / 60 % 24)) pe) bd) = (a1 + (bd - 100000)) := by rw [← ha1]; unfold flZ; split <;> omega
          have w_15 : (bd - flZ (avZ av (hv (now / 60 % 24)) pe) bd) = (bd - (bd - 100000)) := by rw [← ha1]; unfold flZ; split <;> omega
          have w_16 : (if av + hv (now / 60 % 24) - pe < 0 then sh + 1 else sh) = s1 := by exact hs1.symm
          have hP : va_P (dC, dI) vwCl (wM cI cJ cZ q pw co la vo nC par div dee use mrun nT due lat wk nE tk ld rule now st asl idn idl sp 0 tin slp late srv hv (avZ av (hv (now / 60 % 24)) pe + flZ (avZ av (hv (now / 60 % 24)) pe) bd) (bd - flZ (avZ av (hv (now / 60 % 24)) pe) bd) (if av + hv (now / 60 % 24) - pe < 0 then sh + 1 else sh) mL mB thr) H := by rw [w_14, w_15, w_16]; exact hP
          have hD : va_D A (wM cI cJ cZ q pw co la vo nC par div dee use mrun nT due lat wk nE tk ld rule now st asl idn idl sp 0 tin slp late srv hv (avZ av (hv (now / 60 % 24)) pe + flZ (avZ av (hv (now / 60 % 24)) pe) bd) (bd - flZ (avZ av (hv (now / 60 % 24)) pe) bd) (if av + hv (now / 60 % 24) - pe < 0 then sh + 1 else sh) mL mB thr) := by rw [w_14, w_15, w_16]; exact hD
          exact zret_v (W1 := fun _ : Unit => wM cI cJ cZ q pw co la vo nC par div dee use mrun nT due lat wk nE tk ld rule now st asl idn idl sp 0 tin slp late srv hv (avZ av (hv (now / 60 % 24)) pe + flZ (avZ av (hv (now / 60 % 24)) pe) bd) (bd - flZ (avZ av (hv (now / 60 % 24)) pe) bd) (if av + hv (now / 60 % 24) - pe < 0 then sh + 1 else sh) mL mB thr) () hx hb hr hP hD hS hlocks dX8_battery_208 (by trivial)
    · skip
      refine lv_iload_n hx hb dX8_battery_102 rfl (lv_at hl 0 rfl) ?_
      refine lv_aload_n hx hb dX8_battery_103 rfl (lv_at hl 1 rfl) ?_
      refine va_get (D := (dC, dI)) (ci := 8) (v := .int (iI bd)) (C := RX8) (T := TX8) (N := 36) hx hb hts hinX8 hown hK.1 hP 0 rfl rfl 31 (by decide) (hts _ (List.mem_of_getElem? (i := 8) rfl)) (fun _ h9 => h9) rfl dX8_battery_104 ?_
      refine zi_cle (tgt := 117) hx hb (by omega) (by omega) dX8_battery_107 (by decide) (fun c_17 => ?_) (fun c_17 => ?_)
      · skip
        refine lv_iload_n hx hb dX8_battery_117 rfl (lv_at hl 0 rfl) ?_
        refine lv_istore_n (lv' := [(3, .int (iI (((bd / 2) - a1) / 16))), (0, .ref (q 0))]) hx hb dX8_battery_118 rfl hl (by decide) rfl (fun ls hl => ?_)
        refine lv_iload_n hx hb dX8_battery_119 rfl (lv_at hl 0 rfl) ?_
        refine lv_ldc (v := iI 50000) hx hb hown (hts _ (List.mem_of_getElem? (i := 7) rfl)) dX8_battery_120 ?_
        refine lv_aload_n hx hb dX8_battery_122 rfl (lv_at hl 1 rfl) ?_
        refine va_get (D := (dC, dI)) (ci := 8) (v := .int (iI a1)) (C := RX8) (T := TX8) (N := 36) hx hb hts hinX8 hown hK.1 hP 0 rfl rfl 30 (by decide) (hts _ (List.mem_of_getElem? (i := 1) rfl)) (fun _ h9 => h9) rfl dX8_battery_123 ?_
        refine zi_sub hx hb dX8_battery_126 ?_
        refine zi_cle (tgt := 140) hx hb (by omega) (by omega) dX8_battery_127 (by decide) (fun c_18 => ?_) (fun c_18 => ?_)
        · skip
          refine lv_iload_n hx hb dX8_battery_140 rfl (lv_at hl 0 rfl) ?_
          refine lv_istore_n (lv' := [(3, .int (iI (((bd / 2) - a1) / 16))), (0, .ref (q 0))]) hx hb dX8_battery_141 rfl hl (by decide) rfl (fun ls hl => ?_)
          refine lv_goto (tgt := 188) hx hb dX8_battery_142 (by decide) ?_
          refine lv_aload_n hx hb dX8_battery_188 rfl (lv_at hl 1 rfl) ?_
          refine lv_dup hx hb dX8_battery_189 rfl ?_
          refine va_get (D := (dC, dI)) (ci := 8) (v := .int (iI a1)) (C := RX8) (T := TX8) (N := 36) hx hb hts hinX8 hown hK.1 hP 0 rfl rfl 30 (by decide) (hts _ (List.mem_of_getElem? (i := 1) rfl)) (fun _ h9 => h9) rfl dX8_battery_190 ?_
          refine lv_iload_n hx hb dX8_battery_193 rfl (lv_at hl 0 rfl) ?_
          refine zi_add hx hb dX8_battery_194 ?_
          refine va_put (D := (dC, dI)) (ci := 8) (v := .int (iI (a1 + (((bd / 2) - a1) / 16)))) (ty := .int) (C := RX8) (T := TX8) (N := 36) hx hb hts hinX8 tyX8 tyX8_ok nmX8 hown hK.1 hP hD hS 0 rfl rfl 30 (by decide) (hts _ (List.mem_of_getElem? (i := 1) rfl)) (fun _ h9 => h9) rfl (by decide +kernel) rfl rfl (Nat.le_of_ble_eq_true rfl) dX8_battery_195 (fun H locs hP hD hS => ?_)
          have hP : va_P (dC, dI) vwCl (wM cI cJ cZ q pw co la vo nC par div dee use mrun nT due lat wk nE tk ld rule now st asl idn idl sp 0 tin slp late srv hv (a1 + (((bd / 2) - a1) / 16)) bd s1 mL mB thr) H := hP
          have hD : va_D A (wM cI cJ cZ q pw co la vo nC par div dee use mrun nT due lat wk nE tk ld rule now st asl idn idl sp 0 tin slp late srv hv (a1 + (((bd / 2) - a1) / 16)) bd s1 mL mB thr) := hD
          refine lv_aload_n hx hb dX8_battery_198 rfl (lv_at hl 1 rfl) ?_
          refine lv_dup hx hb dX8_battery_199 rfl ?_
          refine va_get (D := (dC, dI)) (ci := 8) (v := .int (iI bd)) (C := RX8) (T := TX8) (N := 36) hx hb hts hinX8 hown hK.1 hP 0 rfl rfl 31 (by decide) (hts _ (List.mem_of_getElem? (i := 8) rfl)) (fun _ h9 => h9) rfl dX8_battery_200 ?_
          refine lv_iload_n hx hb dX8_battery_203 rfl (lv_at hl 0 rfl) ?_
          refine zi_sub hx hb dX8_battery_204 ?_
          refine va_put (D := (dC, dI)) (ci := 8) (v := .int (iI (bd - (((bd / 2) - a1) / 16)))) (ty := .int) (C := RX8) (T := TX8) (N := 36) hx hb hts hinX8 tyX8 tyX8_ok nmX8 hown hK.1 hP hD hS 0 rfl rfl 31 (by decide) (hts _ (List.mem_of_getElem? (i := 8) rfl)) (fun _ h9 => h9) rfl (by decide +kernel) rfl rfl (Nat.le_of_ble_eq_true rfl) dX8_battery_205 (fun H locs hP hD hS => ?_)
          have hP : va_P (dC, dI) vwCl (wM cI cJ cZ q pw co la vo nC par div dee use mrun nT due lat wk nE tk ld rule now st asl idn idl sp 0 tin slp late srv hv (a1 + (((bd / 2) - a1) / 16)) (bd - (((bd / 2) - a1) / 16)) s1 mL mB thr) H := hP
          have hD : va_D A (wM cI cJ cZ q pw co la vo nC par div dee use mrun nT due lat wk nE tk ld rule now st asl idn idl sp 0 tin slp late srv hv (a1 + (((bd / 2) - a1) / 16)) (bd - (((bd / 2) - a1) / 16)) s1 mL mB thr) := hD
          subst hQ
          have w_19 : (avZ av (hv (now / 60 % 24)) pe + flZ (avZ av (hv (now / 60 % 24)) pe) bd) = (a1 + (((bd / 2) - a1) / 16)) := by rw [← ha1]; unfold flZ; split <;> omega
          have w_20 : (bd - flZ (avZ av (hv (now / 60 % 24)) pe) bd) = (bd - (((bd / 2) - a1) / 16)) := by rw [← ha1]; unfold flZ; split <;> omega
          have w_21 : (if av + hv (now / 60 % 24) - pe < 0 then sh + 1 else sh) = s1 := by exact hs1.symm
          have hP : va_P (dC, dI) vwCl (wM cI cJ cZ q pw co la vo nC par div dee use mrun nT due lat wk nE tk ld rule now st asl idn idl sp 0 tin slp late srv hv (avZ av (hv (now / 60 % 24)) pe + flZ (avZ av (hv (now / 60 % 24)) pe) bd) (bd - flZ (avZ av (hv (now / 60 % 24)) pe) bd) (if av + hv (now / 60 % 24) - pe < 0 then sh + 1 else sh) mL mB thr) H := by rw [w_19, w_20, w_21]; exact hP
          have hD : va_D A (wM cI cJ cZ q pw co la vo nC par div dee use mrun nT due lat wk nE tk ld rule now st asl idn idl sp 0 tin slp late srv hv (avZ av (hv (now / 60 % 24)) pe + flZ (avZ av (hv (now / 60 % 24)) pe) bd) (bd - flZ (avZ av (hv (now / 60 % 24)) pe) bd) (if av + hv (now / 60 % 24) - pe < 0 then sh + 1 else sh) mL mB thr) := by rw [w_19, w_20, w_21]; exact hD
          exact zret_v (W1 := fun _ : Unit => wM cI cJ cZ q pw co la vo nC par div dee use mrun nT due lat wk nE tk ld rule now st asl idn idl sp 0 tin slp late srv hv (avZ av (hv (now / 60 % 24)) pe + flZ (avZ av (hv (now / 60 % 24)) pe) bd) (bd - flZ (avZ av (hv (now / 60 % 24)) pe) bd) (if av + hv (now / 60 % 24) - pe < 0 then sh + 1 else sh) mL mB thr) () hx hb hr hP hD hS hlocks dX8_battery_208 (by trivial)
        · skip
          refine lv_ldc (v := iI 50000) hx hb hown (hts _ (List.mem_of_getElem? (i := 7) rfl)) dX8_battery_130 ?_
          refine lv_aload_n hx hb dX8_battery_132 rfl (lv_at hl 1 rfl) ?_
          refine va_get (D := (dC, dI)) (ci := 8) (v := .int (iI a1)) (C := RX8) (T := TX8) (N := 36) hx hb hts hinX8 hown hK.1 hP 0 rfl rfl 30 (by decide) (hts _ (List.mem_of_getElem? (i := 1) rfl)) (fun _ h9 => h9) rfl dX8_battery_133 ?_
          refine zi_sub hx hb dX8_battery_136 ?_
          refine lv_goto (tgt := 141) hx hb dX8_battery_137 (by decide) ?_
          refine lv_istore_n (lv' := [(3, .int (iI (50000 - a1))), (0, .ref (q 0))]) hx hb dX8_battery_141 rfl hl (by decide) rfl (fun ls hl => ?_)
          refine lv_goto (tgt := 188) hx hb dX8_battery_142 (by decide) ?_
          refine lv_aload_n hx hb dX8_battery_188 rfl (lv_at hl 1 rfl) ?_
          refine lv_dup hx hb dX8_battery_189 rfl ?_
          refine va_get (D := (dC, dI)) (ci := 8) (v := .int (iI a1)) (C := RX8) (T := TX8) (N := 36) hx hb hts hinX8 hown hK.1 hP 0 rfl rfl 30 (by decide) (hts _ (List.mem_of_getElem? (i := 1) rfl)) (fun _ h9 => h9) rfl dX8_battery_190 ?_
          refine lv_iload_n hx hb dX8_battery_193 rfl (lv_at hl 0 rfl) ?_
          refine zi_add hx hb dX8_battery_194 ?_
          refine va_put (D := (dC, dI)) (ci := 8) (v := .int (iI (a1 + (50000 - a1)))) (ty := .int) (C := RX8) (T := TX8) (N := 36) hx hb hts hinX8 tyX8 tyX8_ok nmX8 hown hK.1 hP hD hS 0 rfl rfl 30 (by decide) (hts _ (List.mem_of_getElem? (i := 1) rfl)) (fun _ h9 => h9) rfl (by decide +kernel) rfl rfl (Nat.le_of_ble_eq_true rfl) dX8_battery_195 (fun H locs hP hD hS => ?_)
          have hP : va_P (dC, dI) vwCl (wM cI cJ cZ q pw co la vo nC par div dee use mrun nT due lat wk nE tk ld rule now st asl idn idl sp 0 tin slp late srv hv (a1 + (50000 - a1)) bd s1 mL mB thr) H := hP
          have hD : va_D A (wM cI cJ cZ q pw co la vo nC par div dee use mrun nT due lat wk nE tk ld rule now st asl idn idl sp 0 tin slp late srv hv (a1 + (50000 - a1)) bd s1 mL mB thr) := hD
          refine lv_aload_n hx hb dX8_battery_198 rfl (lv_at hl 1 rfl) ?_
          refine lv_dup hx hb dX8_battery_199 rfl ?_
          refine va_get (D := (dC, dI)) (ci := 8) (v := .int (iI bd)) (C := RX8) (T := TX8) (N := 36) hx hb hts hinX8 hown hK.1 hP 0 rfl rfl 31 (by decide) (hts _ (List.mem_of_getElem? (i := 8) rfl)) (fun _ h9 => h9) rfl dX8_battery_200 ?_
          refine lv_iload_n hx hb dX8_battery_203 rfl (lv_at hl 0 rfl) ?_
          refine zi_sub hx hb dX8_battery_204 ?_
          refine va_put (D := (dC, dI)) (ci := 8) (v := .int (iI (bd - (50000 - a1)))) (ty := .int) (C := RX8) (T := TX8) (N := 36) hx hb hts hinX8 tyX8 tyX8_ok nmX8 hown hK.1 hP hD hS 0 rfl rfl 31 (by decide) (hts _ (List.mem_of_getElem? (i := 8) rfl)) (fun _ h9 => h9) rfl (by decide +kernel) rfl rfl (Nat.le_of_ble_eq_true rfl) dX8_battery_205 (fun H locs hP hD hS => ?_)
          have hP : va_P (dC, dI) vwCl (wM cI cJ cZ q pw co la vo nC par div dee use mrun nT due lat wk nE tk ld rule now st asl idn idl sp 0 tin slp late srv hv (a1 + (50000 - a1)) (bd - (50000 - a1)) s1 mL mB thr) H := hP
          have hD : va_D A (wM cI cJ cZ q pw co la vo nC par div dee use mrun nT due lat wk nE tk ld rule now st asl idn idl sp 0 tin slp late srv hv (a1 + (50000 - a1)) (bd - (50000 - a1)) s1 mL mB thr) := hD
          subst hQ
          have w_22 : (avZ av (hv (now / 60 % 24)) pe + flZ (avZ av (hv (now / 60 % 24)) pe) bd) = (a1 + (50000 - a1)) := by rw [← ha1]; unfold flZ; split <;> omega
          have w_23 : (bd - flZ (avZ av (hv (now / 60 % 24)) pe) bd) = (bd - (50000 - a1)) := by rw [← ha1]; unfold flZ; split <;> omega
          have w_24 : (if av + hv (now / 60 % 24) - pe < 0 then sh + 1 else sh) = s1 := by exact hs1.symm
          have hP : va_P (dC, dI) vwCl (wM cI cJ cZ q pw co la vo nC par div dee use mrun nT due lat wk nE tk ld rule now st asl idn idl sp 0 tin slp late srv hv (avZ av (hv (now / 60 % 24)) pe + flZ (avZ av (hv (now / 60 % 24)) pe) bd) (bd - flZ (avZ av (hv (now / 60 % 24)) pe) bd) (if av + hv (now / 60 % 24) - pe < 0 then sh + 1 else sh) mL mB thr) H := by rw [w_22, w_23, w_24]; exact hP
          have hD : va_D A (wM cI cJ cZ q pw co la vo nC par div dee use mrun nT due lat wk nE tk ld rule now st asl idn idl sp 0 tin slp late srv hv (avZ av (hv (now / 60 % 24)) pe + flZ (avZ av (hv (now / 60 % 24)) pe) bd) (bd - flZ (avZ av (hv (now / 60 % 24)) pe) bd) (if av + hv (now / 60 % 24) - pe < 0 then sh + 1 else sh) mL mB thr) := by rw [w_22, w_23, w_24]; exact hD
          exact zret_v (W1 := fun _ : Unit => wM cI cJ cZ q pw co la vo nC par div dee use mrun nT due lat wk nE tk ld rule now st asl idn idl sp 0 tin slp late srv hv (avZ av (hv (now / 60 % 24)) pe + flZ (avZ av (hv (now / 60 % 24)) pe) bd) (bd - flZ (avZ av (hv (now / 60 % 24)) pe) bd) (if av + hv (now / 60 % 24) - pe < 0 then sh + 1 else sh) mL mB thr) () hx hb hr hP hD hS hlocks dX8_battery_208 (by trivial)
      · skip
        refine lv_aload_n hx hb dX8_battery_110 rfl (lv_at hl 1 rfl) ?_
        refine va_get (D := (dC, dI)) (ci := 8) (v := .int (iI bd)) (C := RX8) (T := TX8) (N := 36) hx hb hts hinX8 hown hK.1 hP 0 rfl rfl 31 (by decide) (hts _ (List.mem_of_getElem? (i := 8) rfl)) (fun _ h9 => h9) rfl dX8_battery_111 ?_
        refine lv_goto (tgt := 118) hx hb dX8_battery_114 (by decide) ?_
        refine lv_istore_n (lv' := [(3, .int (iI bd)), (0, .ref (q 0))]) hx hb dX8_battery_118 rfl hl (by decide) rfl (fun ls hl => ?_)
        refine lv_iload_n hx hb dX8_battery_119 rfl (lv_at hl 0 rfl) ?_
        refine lv_ldc (v := iI 50000) hx hb hown (hts _ (List.mem_of_getElem? (i := 7) rfl)) dX8_battery_120 ?_
        refine lv_aload_n hx hb dX8_battery_122 rfl (lv_at hl 1 rfl) ?_
        refine va_get (D := (dC, dI)) (ci := 8) (v := .int (iI a1)) (C := RX8) (T := TX8) (N := 36) hx hb hts hinX8 hown hK.1 hP 0 rfl rfl 30 (by decide) (hts _ (List.mem_of_getElem? (i := 1) rfl)) (fun _ h9 => h9) rfl dX8_battery_123 ?_
        refine zi_sub hx hb dX8_battery_126 ?_
        refine zi_cle (tgt := 140) hx hb (by omega) (by omega) dX8_battery_127 (by decide) (fun c_25 => ?_) (fun c_25 => ?_)
        · skip
          refine lv_iload_n hx hb dX8_battery_140 rfl (lv_at hl 0 rfl) ?_
          refine lv_istore_n (lv' := [(3, .int (iI bd)), (0, .ref (q 0))]) hx hb dX8_battery_141 rfl hl (by decide) rfl (fun ls hl => ?_)
          refine lv_goto (tgt := 188) hx hb dX8_battery_142 (by decide) ?_
          refine lv_aload_n hx hb dX8_battery_188 rfl (lv_at hl 1 rfl) ?_
          refine lv_dup hx hb dX8_battery_189 rfl ?_
          refine va_get (D := (dC, dI)) (ci := 8) (v := .int (iI a1)) (C := RX8) (T := TX8) (N := 36) hx hb hts hinX8 hown hK.1 hP 0 rfl rfl 30 (by decide) (hts _ (List.mem_of_getElem? (i := 1) rfl)) (fun _ h9 => h9) rfl dX8_battery_190 ?_
          refine lv_iload_n hx hb dX8_battery_193 rfl (lv_at hl 0 rfl) ?_
          refine zi_add hx hb dX8_battery_194 ?_
          refine va_put (D := (dC, dI)) (ci := 8) (v := .int (iI (a1 + bd))) (ty := .int) (C := RX8) (T := TX8) (N := 36) hx hb hts hinX8 tyX8 tyX8_ok nmX8 hown hK.1 hP hD hS 0 rfl rfl 30 (by decide) (hts _ (List.mem_of_getElem? (i := 1) rfl)) (fun _ h9 => h9) rfl (by decide +kernel) rfl rfl (Nat.le_of_ble_eq_true rfl) dX8_battery_195 (fun H locs hP hD hS => ?_)
          have hP : va_P (dC, dI) vwCl (wM cI cJ cZ q pw co la vo nC par div dee use mrun nT due lat wk nE tk ld rule now st asl idn idl sp 0 tin slp late srv hv (a1 + bd) bd s1 mL mB thr) H := hP
          have hD : va_D A (wM cI cJ cZ q pw co la vo nC par div dee use mrun nT due lat wk nE tk ld rule now st asl idn idl sp 0 tin slp late srv hv (a1 + bd) bd s1 mL mB thr) := hD
          refine lv_aload_n hx hb dX8_battery_198 rfl (lv_at hl 1 rfl) ?_
          refine lv_dup hx hb dX8_battery_199 rfl ?_
          refine va_get (D := (dC, dI)) (ci := 8) (v := .int (iI bd)) (C := RX8) (T := TX8) (N := 36) hx hb hts hinX8 hown hK.1 hP 0 rfl rfl 31 (by decide) (hts _ (List.mem_of_getElem? (i := 8) rfl)) (fun _ h9 => h9) rfl dX8_battery_200 ?_
          refine lv_iload_n hx hb dX8_battery_203 rfl (lv_at hl 0 rfl) ?_
          refine zi_sub hx hb dX8_battery_204 ?_
          refine va_put (D := (dC, dI)) (ci := 8) (v := .int (iI (bd - bd))) (ty := .int) (C := RX8) (T := TX8) (N := 36) hx hb hts hinX8 tyX8 tyX8_ok nmX8 hown hK.1 hP hD hS 0 rfl rfl 31 (by decide) (hts _ (List.mem_of_getElem? (i := 8) rfl)) (fun _ h9 => h9) rfl (by decide +kernel) rfl rfl (Nat.le_of_ble_eq_true rfl) dX8_battery_205 (fun H locs hP hD hS => ?_)
          have hP : va_P (dC, dI) vwCl (wM cI cJ cZ q pw co la vo nC par div dee use mrun nT due lat wk nE tk ld rule now st asl idn idl sp 0 tin slp late srv hv (a1 + bd) (bd - bd) s1 mL mB thr) H := hP
          have hD : va_D A (wM cI cJ cZ q pw co la vo nC par div dee use mrun nT due lat wk nE tk ld rule now st asl idn idl sp 0 tin slp late srv hv (a1 + bd) (bd - bd) s1 mL mB thr) := hD
          subst hQ
          have w_26 : (avZ av (hv (now / 60 % 24)) pe + flZ (avZ av (hv (now / 60 % 24)) pe) bd) = (a1 + bd) := by rw [← ha1]; unfold flZ; split <;> omega
          have w_27 : (bd - flZ (avZ av (hv (now / 60 % 24)) pe) bd) = (bd - bd) := by rw [← ha1]; unfold flZ; split <;> omega
          have w_28 : (if av + hv (now / 60 % 24) - pe < 0 then sh + 1 else sh) = s1 := by exact hs1.symm
          have hP : va_P (dC, dI) vwCl (wM cI cJ cZ q pw co la vo nC par div dee use mrun nT due lat wk nE tk ld rule now st asl idn idl sp 0 tin slp late srv hv (avZ av (hv (now / 60 % 24)) pe + flZ (avZ av (hv (now / 60 % 24)) pe) bd) (bd - flZ (avZ av (hv (now / 60 % 24)) pe) bd) (if av + hv (now / 60 % 24) - pe < 0 then sh + 1 else sh) mL mB thr) H := by rw [w_26, w_27, w_28]; exact hP
          have hD : va_D A (wM cI cJ cZ q pw co la vo nC par div dee use mrun nT due lat wk nE tk ld rule now st asl idn idl sp 0 tin slp late srv hv (avZ av (hv (now / 60 % 24)) pe + flZ (avZ av (hv (now / 60 % 24)) pe) bd) (bd - flZ (avZ av (hv (now / 60 % 24)) pe) bd) (if av + hv (now / 60 % 24) - pe < 0 then sh + 1 else sh) mL mB thr) := by rw [w_26, w_27, w_28]; exact hD
          exact zret_v (W1 := fun _ : Unit => wM cI cJ cZ q pw co la vo nC par div dee use mrun nT due lat wk nE tk ld rule now st asl idn idl sp 0 tin slp late srv hv (avZ av (hv (now / 60 % 24)) pe + flZ (avZ av (hv (now / 60 % 24)) pe) bd) (bd - flZ (avZ av (hv (now / 60 % 24)) pe) bd) (if av + hv (now / 60 % 24) - pe < 0 then sh + 1 else sh) mL mB thr) () hx hb hr hP hD hS hlocks dX8_battery_208 (by trivial)
        · skip
          refine lv_ldc (v := iI 50000) hx hb hown (hts _ (List.mem_of_getElem? (i := 7) rfl)) dX8_battery_130 ?_
          refine lv_aload_n hx hb dX8_battery_132 rfl (lv_at hl 1 rfl) ?_
          refine va_get (D := (dC, dI)) (ci := 8) (v := .int (iI a1)) (C := RX8) (T := TX8) (N := 36) hx hb hts hinX8 hown hK.1 hP 0 rfl rfl 30 (by decide) (hts _ (List.mem_of_getElem? (i := 1) rfl)) (fun _ h9 => h9) rfl dX8_battery_133 ?_
          refine zi_sub hx hb dX8_battery_136 ?_
          refine lv_goto (tgt := 141) hx hb dX8_battery_137 (by decide) ?_
          refine lv_istore_n (lv' := [(3, .int (iI (50000 - a1))), (0, .ref (q 0))]) hx hb dX8_battery_141 rfl hl (by decide) rfl (fun ls hl => ?_)
          refine lv_goto (tgt := 188) hx hb dX8_battery_142 (by decide) ?_
          refine lv_aload_n hx hb dX8_battery_188 rfl (lv_at hl 1 rfl) ?_
          refine lv_dup hx hb dX8_battery_189 rfl ?_
          refine va_get (D := (dC, dI)) (ci := 8) (v := .int (iI a1)) (C := RX8) (T := TX8) (N := 36) hx hb hts hinX8 hown hK.1 hP 0 rfl rfl 30 (by decide) (hts _ (List.mem_of_getElem? (i := 1) rfl)) (fun _ h9 => h9) rfl dX8_battery_190 ?_
          refine lv_iload_n hx hb dX8_battery_193 rfl (lv_at hl 0 rfl) ?_
          refine zi_add hx hb dX8_battery_194 ?_
          refine va_put (D := (dC, dI)) (ci := 8) (v := .int (iI (a1 + (50000 - a1)))) (ty := .int) (C := RX8) (T := TX8) (N := 36) hx hb hts hinX8 tyX8 tyX8_ok nmX8 hown hK.1 hP hD hS 0 rfl rfl 30 (by decide) (hts _ (List.mem_of_getElem? (i := 1) rfl)) (fun _ h9 => h9) rfl (by decide +kernel) rfl rfl (Nat.le_of_ble_eq_true rfl) dX8_battery_195 (fun H locs hP hD hS => ?_)
          have hP : va_P (dC, dI) vwCl (wM cI cJ cZ q pw co la vo nC par div dee use mrun nT due lat wk nE tk ld rule now st asl idn idl sp 0 tin slp late srv hv (a1 + (50000 - a1)) bd s1 mL mB thr) H := hP
          have hD : va_D A (wM cI cJ cZ q pw co la vo nC par div dee use mrun nT due lat wk nE tk ld rule now st asl idn idl sp 0 tin slp late srv hv (a1 + (50000 - a1)) bd s1 mL mB thr) := hD
          refine lv_aload_n hx hb dX8_battery_198 rfl (lv_at hl 1 rfl) ?_
          refine lv_dup hx hb dX8_battery_199 rfl ?_
          refine va_get (D := (dC, dI)) (ci := 8) (v := .int (iI bd)) (C := RX8) (T := TX8) (N := 36) hx hb hts hinX8 hown hK.1 hP 0 rfl rfl 31 (by decide) (hts _ (List.mem_of_getElem? (i := 8) rfl)) (fun _ h9 => h9) rfl dX8_battery_200 ?_
          refine lv_iload_n hx hb dX8_battery_203 rfl (lv_at hl 0 rfl) ?_
          refine zi_sub hx hb dX8_battery_204 ?_
          refine va_put (D := (dC, dI)) (ci := 8) (v := .int (iI (bd - (50000 - a1)))) (ty := .int) (C := RX8) (T := TX8) (N := 36) hx hb hts hinX8 tyX8 tyX8_ok nmX8 hown hK.1 hP hD hS 0 rfl rfl 31 (by decide) (hts _ (List.mem_of_getElem? (i := 8) rfl)) (fun _ h9 => h9) rfl (by decide +kernel) rfl rfl (Nat.le_of_ble_eq_true rfl) dX8_battery_205 (fun H locs hP hD hS => ?_)
          have hP : va_P (dC, dI) vwCl (wM cI cJ cZ q pw co la vo nC par div dee use mrun nT due lat wk nE tk ld rule now st asl idn idl sp 0 tin slp late srv hv (a1 + (50000 - a1)) (bd - (50000 - a1)) s1 mL mB thr) H := hP
          have hD : va_D A (wM cI cJ cZ q pw co la vo nC par div dee use mrun nT due lat wk nE tk ld rule now st asl idn idl sp 0 tin slp late srv hv (a1 + (50000 - a1)) (bd - (50000 - a1)) s1 mL mB thr) := hD
          subst hQ
          have w_29 : (avZ av (hv (now / 60 % 24)) pe + flZ (avZ av (hv (now / 60 % 24)) pe) bd) = (a1 + (50000 - a1)) := by rw [← ha1]; unfold flZ; split <;> omega
          have w_30 : (bd - flZ (avZ av (hv (now / 60 % 24)) pe) bd) = (bd - (50000 - a1)) := by rw [← ha1]; unfold flZ; split <;> omega
          have w_31 : (if av + hv (now / 60 % 24) - pe < 0 then sh + 1 else sh) = s1 := by exact hs1.symm
          have hP : va_P (dC, dI) vwCl (wM cI cJ cZ q pw co la vo nC par div dee use mrun nT due lat wk nE tk ld rule now st asl idn idl sp 0 tin slp late srv hv (avZ av (hv (now / 60 % 24)) pe + flZ (avZ av (hv (now / 60 % 24)) pe) bd) (bd - flZ (avZ av (hv (now / 60 % 24)) pe) bd) (if av + hv (now / 60 % 24) - pe < 0 then sh + 1 else sh) mL mB thr) H := by rw [w_29, w_30, w_31]; exact hP
          have hD : va_D A (wM cI cJ cZ q pw co la vo nC par div dee use mrun nT due lat wk nE tk ld rule now st asl idn idl sp 0 tin slp late srv hv (avZ av (hv (now / 60 % 24)) pe + flZ (avZ av (hv (now / 60 % 24)) pe) bd) (bd - flZ (avZ av (hv (now / 60 % 24)) pe) bd) (if av + hv (now / 60 % 24) - pe < 0 then sh + 1 else sh) mL mB thr) := by rw [w_29, w_30, w_31]; exact hD
          exact zret_v (W1 := fun _ : Unit => wM cI cJ cZ q pw co la vo nC par div dee use mrun nT due lat wk nE tk ld rule now st asl idn idl sp 0 tin slp late srv hv (avZ av (hv (now / 60 % 24)) pe + flZ (avZ av (hv (now / 60 % 24)) pe) bd) (bd - flZ (avZ av (hv (now / 60 % 24)) pe) bd) (if av + hv (now / 60 % 24) - pe < 0 then sh + 1 else sh) mL mB thr) () hx hb hr hP hD hS hlocks dX8_battery_208 (by trivial)
  refine lv_aload_n hx hb dX8_battery_0 rfl (lv_at hl 0 rfl) ?_
  refine va_get (D := (dC, dI)) (ci := 8) (v := .int (iI av)) (C := RX8) (T := TX8) (N := 36) hx hb hts hinX8 hown hK.1 hP 0 rfl rfl 30 (by decide) (hts _ (List.mem_of_getElem? (i := 1) rfl)) (fun _ h9 => h9) rfl dX8_battery_1 ?_
  refine lv_aload_n hx hb dX8_battery_4 rfl (lv_at hl 0 rfl) ?_
  refine va_get (D := (dC, dI)) (ci := 8) (v := .ref (q 17)) (C := RX8) (T := TX8) (N := 36) hx hb hts hinX8 hown hK.1 hP 0 rfl rfl 29 (by decide) (hts _ (List.mem_of_getElem? (i := 2) rfl)) (fun _ h9 => h9) rfl dX8_battery_5 ?_
  refine lv_aload_n hx hb dX8_battery_8 rfl (lv_at hl 0 rfl) ?_
  refine va_get (D := (dC, dI)) (ci := 8) (v := .int (iI now)) (C := RX8) (T := TX8) (N := 36) hx hb hts hinX8 hown hK.1 hP 0 rfl rfl 18 (by decide) (hts _ (List.mem_of_getElem? (i := 3) rfl)) (fun _ h9 => h9) rfl dX8_battery_9 ?_
  refine lv_bipush (v := iI 60) hx hb dX8_battery_12 (by decide) ?_
  refine zi_div hx hb (by omega) (by omega) dX8_battery_14 ?_
  refine lv_bipush (v := iI 24) hx hb dX8_battery_15 (by decide) ?_
  refine zi_rem hx hb (by omega) (by omega) dX8_battery_17 ?_
  refine za_ld hx hb hK hP 17 0 rfl rfl (by omega) (by omega) dX8_battery_18 ?_
  have e_32 := hhv ((now / 60) % 24) (by omega) (by omega)
  refine zi_add hx hb dX8_battery_19 ?_
  refine zi_l hx hb (by omega) dX8_battery_20 ?_
  refine lv_aload_n hx hb dX8_battery_21 rfl (lv_at hl 0 rfl) ?_
  refine va_get (D := (dC, dI)) (ci := 8) (v := .long (lI pe)) (C := RX8) (T := TX8) (N := 36) hx hb hts hinX8 hown hK.1 hP 0 rfl rfl 24 (by decide) (hts _ (List.mem_of_getElem? (i := 4) rfl)) (fun _ h9 => h9) rfl dX8_battery_22 ?_
  refine zl_sub hx hb dX8_battery_25 ?_
  refine lv_lstore_n (lv' := [(1, .long (lI ((av + (hv ((now / 60) % 24))) - pe))), (0, .ref (q 0))]) hx hb dX8_battery_26 rfl hl (by decide) rfl (fun ls hl => ?_)
  refine lv_aload_n hx hb dX8_battery_27 rfl (lv_at hl 1 rfl) ?_
  refine lv_lconst (v := lI 0) hx hb dX8_battery_28 rfl ?_
  refine va_put (D := (dC, dI)) (ci := 8) (v := .long (lI 0)) (ty := .long) (C := RX8) (T := TX8) (N := 36) hx hb hts hinX8 tyX8 tyX8_ok nmX8 hown hK.1 hP hD hS 0 rfl rfl 24 (by decide) (hts _ (List.mem_of_getElem? (i := 4) rfl)) (fun _ h9 => h9) rfl (by decide +kernel) rfl rfl (Nat.le_of_ble_eq_true rfl) dX8_battery_29 (fun H locs hP hD hS => ?_)
  have hP : va_P (dC, dI) vwCl (wM cI cJ cZ q pw co la vo nC par div dee use mrun nT due lat wk nE tk ld rule now st asl idn idl sp 0 tin slp late srv hv av bd sh mL mB thr) H := hP
  have hD : va_D A (wM cI cJ cZ q pw co la vo nC par div dee use mrun nT due lat wk nE tk ld rule now st asl idn idl sp 0 tin slp late srv hv av bd sh mL mB thr) := hD
  refine lv_aload_n hx hb dX8_battery_32 rfl (lv_at hl 1 rfl) ?_
  refine lv_dup hx hb dX8_battery_33 rfl ?_
  refine va_get (D := (dC, dI)) (ci := 8) (v := .int (iI sh)) (C := RX8) (T := TX8) (N := 36) hx hb hts hinX8 hown hK.1 hP 0 rfl rfl 32 (by decide) (hts _ (List.mem_of_getElem? (i := 5) rfl)) (fun _ h9 => h9) rfl dX8_battery_34 ?_
  refine lv_lload_n hx hb dX8_battery_37 rfl (lv_at hl 0 rfl) ?_
  refine lv_lconst (v := lI 0) hx hb dX8_battery_38 rfl ?_
  refine zl_cge (tgt := 47) hx hb (by omega) (by omega) dX8_battery_39 dX8_battery_40 (by decide) (fun c_33 => ?_) (fun c_33 => ?_)
  · skip
    refine lv_iconst (v := iI 0) hx hb dX8_battery_47 rfl ?_
    refine zi_add hx hb dX8_battery_48 ?_
    refine va_put (D := (dC, dI)) (ci := 8) (v := .int (iI (sh + 0))) (ty := .int) (C := RX8) (T := TX8) (N := 36) hx hb hts hinX8 tyX8 tyX8_ok nmX8 hown hK.1 hP hD hS 0 rfl rfl 32 (by decide) (hts _ (List.mem_of_getElem? (i := 5) rfl)) (fun _ h9 => h9) rfl (by decide +kernel) rfl rfl (Nat.le_of_ble_eq_true rfl) dX8_battery_49 (fun H locs hP hD hS => ?_)
    have hP : va_P (dC, dI) vwCl (wM cI cJ cZ q pw co la vo nC par div dee use mrun nT due lat wk nE tk ld rule now st asl idn idl sp 0 tin slp late srv hv av bd (sh + 0) mL mB thr) H := hP
    have hD : va_D A (wM cI cJ cZ q pw co la vo nC par div dee use mrun nT due lat wk nE tk ld rule now st asl idn idl sp 0 tin slp late srv hv av bd (sh + 0) mL mB thr) := hD
    refine lv_aload_n hx hb dX8_battery_52 rfl (lv_at hl 1 rfl) ?_
    refine lv_lload_n hx hb dX8_battery_53 rfl (lv_at hl 0 rfl) ?_
    refine lv_lconst (v := lI 0) hx hb dX8_battery_54 rfl ?_
    refine zl_cge (tgt := 63) hx hb (by omega) (by omega) dX8_battery_55 dX8_battery_56 (by decide) (fun c_34 => ?_) (fun c_34 => ?_)
    · skip
      refine lv_lload_n hx hb dX8_battery_63 rfl (lv_at hl 0 rfl) ?_
      refine lv_ldc2 (v := lI 50000) hx hb hown (hts _ (List.mem_of_getElem? (i := 6) rfl)) dX8_battery_64 ?_
      refine zl_cle (tgt := 76) hx hb (by omega) (by omega) dX8_battery_67 dX8_battery_68 (by decide) (fun c_35 => ?_) (fun c_35 => ?_)
      · skip
        refine lv_lload_n hx hb dX8_battery_76 rfl (lv_at hl 0 rfl) ?_
        refine zl_i hx hb dX8_battery_77 ?_
        refine va_put (D := (dC, dI)) (ci := 8) (v := .int (iI ((av + (hv ((now / 60) % 24))) - pe))) (ty := .int) (C := RX8) (T := TX8) (N := 36) hx hb hts hinX8 tyX8 tyX8_ok nmX8 hown hK.1 hP hD hS 0 rfl rfl 30 (by decide) (hts _ (List.mem_of_getElem? (i := 1) rfl)) (fun _ h9 => h9) rfl (by decide +kernel) rfl rfl (Nat.le_of_ble_eq_true rfl) dX8_battery_78 (fun H locs hP hD hS => ?_)
        have hP : va_P (dC, dI) vwCl (wM cI cJ cZ q pw co la vo nC par div dee use mrun nT due lat wk nE tk ld rule now st asl idn idl sp 0 tin slp late srv hv ((av + (hv ((now / 60) % 24))) - pe) bd (sh + 0) mL mB thr) H := hP
        have hD : va_D A (wM cI cJ cZ q pw co la vo nC par div dee use mrun nT due lat wk nE tk ld rule now st asl idn idl sp 0 tin slp late srv hv ((av + (hv ((now / 60) % 24))) - pe) bd (sh + 0) mL mB thr) := hD
        exact L81 ((av + (hv ((now / 60) % 24))) - pe) (sh + 0) (by unfold avZ; omega) (by first | (rw [if_pos (by omega)]; done) | (rw [if_neg (by omega)]; omega)) H locs hP hD hS ls (lv_sub hl [1] rfl)
      · skip
        refine lv_ldc (v := iI 50000) hx hb hown (hts _ (List.mem_of_getElem? (i := 7) rfl)) dX8_battery_71 ?_
        refine lv_goto (tgt := 78) hx hb dX8_battery_73 (by decide) ?_
        refine va_put (D := (dC, dI)) (ci := 8) (v := .int (iI 50000)) (ty := .int) (C := RX8) (T := TX8) (N := 36) hx hb hts hinX8 tyX8 tyX8_ok nmX8 hown hK.1 hP hD hS 0 rfl rfl 30 (by decide) (hts _ (List.mem_of_getElem? (i := 1) rfl)) (fun _ h9 => h9) rfl (by decide +kernel) rfl rfl (Nat.le_of_ble_eq_true rfl) dX8_battery_78 (fun H locs hP hD hS => ?_)
        have hP : va_P (dC, dI) vwCl (wM cI cJ cZ q pw co la vo nC par div dee use mrun nT due lat wk nE tk ld rule now st asl idn idl sp 0 tin slp late srv hv 50000 bd (sh + 0) mL mB thr) H := hP
        have hD : va_D A (wM cI cJ cZ q pw co la vo nC par div dee use mrun nT due lat wk nE tk ld rule now st asl idn idl sp 0 tin slp late srv hv 50000 bd (sh + 0) mL mB thr) := hD
        exact L81 50000 (sh + 0) (by unfold avZ; omega) (by first | (rw [if_pos (by omega)]; done) | (rw [if_neg (by omega)]; omega)) H locs hP hD hS ls (lv_sub hl [1] rfl)
    · skip
      refine lv_iconst (v := iI 0) hx hb dX8_battery_59 rfl ?_
      refine lv_goto (tgt := 78) hx hb dX8_battery_60 (by decide) ?_
      refine va_put (D := (dC, dI)) (ci := 8) (v := .int (iI 0)) (ty := .int) (C := RX8) (T := TX8) (N := 36) hx hb hts hinX8 tyX8 tyX8_ok nmX8 hown hK.1 hP hD hS 0 rfl rfl 30 (by decide) (hts _ (List.mem_of_getElem? (i := 1) rfl)) (fun _ h9 => h9) rfl (by decide +kernel) rfl rfl (Nat.le_of_ble_eq_true rfl) dX8_battery_78 (fun H locs hP hD hS => ?_)
      have hP : va_P (dC, dI) vwCl (wM cI cJ cZ q pw co la vo nC par div dee use mrun nT due lat wk nE tk ld rule now st asl idn idl sp 0 tin slp late srv hv 0 bd (sh + 0) mL mB thr) H := hP
      have hD : va_D A (wM cI cJ cZ q pw co la vo nC par div dee use mrun nT due lat wk nE tk ld rule now st asl idn idl sp 0 tin slp late srv hv 0 bd (sh + 0) mL mB thr) := hD
      exact L81 0 (sh + 0) (by unfold avZ; omega) (by first | (rw [if_pos (by omega)]; done) | (rw [if_neg (by omega)]; omega)) H locs hP hD hS ls (lv_sub hl [1] rfl)
  · skip
    refine lv_iconst (v := iI 1) hx hb dX8_battery_43 rfl ?_
    refine lv_goto (tgt := 48) hx hb dX8_battery_44 (by decide) ?_
    refine zi_add hx hb dX8_battery_48 ?_
    refine va_put (D := (dC, dI)) (ci := 8) (v := .int (iI (sh + 1))) (ty := .int) (C := RX8) (T := TX8) (N := 36) hx hb hts hinX8 tyX8 tyX8_ok nmX8 hown hK.1 hP hD hS 0 rfl rfl 32 (by decide) (hts _ (List.mem_of_getElem? (i := 5) rfl)) (fun _ h9 => h9) rfl (by decide +kernel) rfl rfl (Nat.le_of_ble_eq_true rfl) dX8_battery_49 (fun H locs hP hD hS => ?_)
    have hP : va_P (dC, dI) vwCl (wM cI cJ cZ q pw co la vo nC par div dee use mrun nT due lat wk nE tk ld rule now st asl idn idl sp 0 tin slp late srv hv av bd (sh + 1) mL mB thr) H := hP
    have hD : va_D A (wM cI cJ cZ q pw co la vo nC par div dee use mrun nT due lat wk nE tk ld rule now st asl idn idl sp 0 tin slp late srv hv av bd (sh + 1) mL mB thr) := hD
    refine lv_aload_n hx hb dX8_battery_52 rfl (lv_at hl 1 rfl) ?_
    refine lv_lload_n hx hb dX8_battery_53 rfl (lv_at hl 0 rfl) ?_
    refine lv_lconst (v := lI 0) hx hb dX8_battery_54 rfl ?_
    refine zl_cge (tgt := 63) hx hb (by omega) (by omega) dX8_battery_55 dX8_battery_56 (by decide) (fun c_36 => ?_) (fun c_36 => ?_)
    · skip
      refine lv_lload_n hx hb dX8_battery_63 rfl (lv_at hl 0 rfl) ?_
      refine lv_ldc2 (v := lI 50000) hx hb hown (hts _ (List.mem_of_getElem? (i := 6) rfl)) dX8_battery_64 ?_
      refine zl_cle (tgt := 76) hx hb (by omega) (by omega) dX8_battery_67 dX8_battery_68 (by decide) (fun c_37 => ?_) (fun c_37 => ?_)
      · skip
        refine lv_lload_n hx hb dX8_battery_76 rfl (lv_at hl 0 rfl) ?_
        refine zl_i hx hb dX8_battery_77 ?_
        refine va_put (D := (dC, dI)) (ci := 8) (v := .int (iI ((av + (hv ((now / 60) % 24))) - pe))) (ty := .int) (C := RX8) (T := TX8) (N := 36) hx hb hts hinX8 tyX8 tyX8_ok nmX8 hown hK.1 hP hD hS 0 rfl rfl 30 (by decide) (hts _ (List.mem_of_getElem? (i := 1) rfl)) (fun _ h9 => h9) rfl (by decide +kernel) rfl rfl (Nat.le_of_ble_eq_true rfl) dX8_battery_78 (fun H locs hP hD hS => ?_)
        have hP : va_P (dC, dI) vwCl (wM cI cJ cZ q pw co la vo nC par div dee use mrun nT due lat wk nE tk ld rule now st asl idn idl sp 0 tin slp late srv hv ((av + (hv ((now / 60) % 24))) - pe) bd (sh + 1) mL mB thr) H := hP
        have hD : va_D A (wM cI cJ cZ q pw co la vo nC par div dee use mrun nT due lat wk nE tk ld rule now st asl idn idl sp 0 tin slp late srv hv ((av + (hv ((now / 60) % 24))) - pe) bd (sh + 1) mL mB thr) := hD
        exact L81 ((av + (hv ((now / 60) % 24))) - pe) (sh + 1) (by unfold avZ; omega) (by first | (rw [if_pos (by omega)]; done) | (rw [if_neg (by omega)]; omega)) H locs hP hD hS ls (lv_sub hl [1] rfl)
      · skip
        refine lv_ldc (v := iI 50000) hx hb hown (hts _ (List.mem_of_getElem? (i := 7) rfl)) dX8_battery_71 ?_
        refine lv_goto (tgt := 78) hx hb dX8_battery_73 (by decide) ?_
        refine va_put (D := (dC, dI)) (ci := 8) (v := .int (iI 50000)) (ty := .int) (C := RX8) (T := TX8) (N := 36) hx hb hts hinX8 tyX8 tyX8_ok nmX8 hown hK.1 hP hD hS 0 rfl rfl 30 (by decide) (hts _ (List.mem_of_getElem? (i := 1) rfl)) (fun _ h9 => h9) rfl (by decide +kernel) rfl rfl (Nat.le_of_ble_eq_true rfl) dX8_battery_78 (fun H locs hP hD hS => ?_)
        have hP : va_P (dC, dI) vwCl (wM cI cJ cZ q pw co la vo nC par div dee use mrun nT due lat wk nE tk ld rule now st asl idn idl sp 0 tin slp late srv hv 50000 bd (sh + 1) mL mB thr) H := hP
        have hD : va_D A (wM cI cJ cZ q pw co la vo nC par div dee use mrun nT due lat wk nE tk ld rule now st asl idn idl sp 0 tin slp late srv hv 50000 bd (sh + 1) mL mB thr) := hD
        exact L81 50000 (sh + 1) (by unfold avZ; omega) (by first | (rw [if_pos (by omega)]; done) | (rw [if_neg (by omega)]; omega)) H locs hP hD hS ls (lv_sub hl [1] rfl)
    · skip
      refine lv_iconst (v := iI 0) hx hb dX8_battery_59 rfl ?_
      refine lv_goto (tgt := 78) hx hb dX8_battery_60 (by decide) ?_
      refine va_put (D := (dC, dI)) (ci := 8) (v := .int (iI 0)) (ty := .int) (C := RX8) (T := TX8) (N := 36) hx hb hts hinX8 tyX8 tyX8_ok nmX8 hown hK.1 hP hD hS 0 rfl rfl 30 (by decide) (hts _ (List.mem_of_getElem? (i := 1) rfl)) (fun _ h9 => h9) rfl (by decide +kernel) rfl rfl (Nat.le_of_ble_eq_true rfl) dX8_battery_78 (fun H locs hP hD hS => ?_)
      have hP : va_P (dC, dI) vwCl (wM cI cJ cZ q pw co la vo nC par div dee use mrun nT due lat wk nE tk ld rule now st asl idn idl sp 0 tin slp late srv hv 0 bd (sh + 1) mL mB thr) H := hP
      have hD : va_D A (wM cI cJ cZ q pw co la vo nC par div dee use mrun nT due lat wk nE tk ld rule now st asl idn idl sp 0 tin slp late srv hv 0 bd (sh + 1) mL mB thr) := hD
      exact L81 0 (sh + 1) (by unfold avZ; omega) (by first | (rw [if_pos (by omega)]; done) | (rw [if_neg (by omega)]; omega)) H locs hP hD hS ls (lv_sub hl [1] rfl)
def rmX8_playsOne : Room := { frames := 4, cells := 0, slots := 0, locals := 90 }
set_option maxRecDepth 100000 in
set_option maxHeartbeats 4000000 in
theorem kX8_playsOne (l : Launch) (dC : Nat → ClassId) (dI : Nat → Nat → Nat) (cI cJ cZ : ClassId) (q : Nat → Nat)  (pw : Int → Int) (co : Int → Int) (la : Int → Int) (vo : Int → Int) (nC : Int) (par : Int → Int) (div : Int → Int) (dee : Int → Int) (use : Int → Int) (mrun : Int → Int) (nT : Int) (due : Int → Int) (lat : Int → Int) (wk : Int → Int) (nE : Int) (tk : Int → Int) (ld : Int → Int) (rule : Int) (now : Int) (st : Int) (asl : Int) (idn : Int) (idl : Int → Int) (sp : Int) (pe : Int) (tin : Int → Int) (slp : Int) (late : Int) (srv : Int) (hv : Int → Int) (av : Int) (bd : Int) (sh : Int) (mL : Int → Int) (mB : Int → Int) (thr : Int) (hnC : 1 ≤ nC ∧ nC ≤ 8) (hpar : ∀ c : Int, 1 ≤ c → c < nC → 0 ≤ par c ∧ par c < c) (huse : rgZ use 8 9) (hmrun : tfZ mrun) (hde : rgZ dee 8 3) (hvo : rgZ vo 6 3) (hpw : rgZ pw 4 1000) (hco : rgZ co 4 10000) (hla : rgZ la 4 100) (hidn : 0 ≤ idn ∧ idn ≤ 1000000) (hidl : rgZ idl 4 1000000) (hnow : 0 ≤ now ∧ now ≤ 200000) (hnT : 0 ≤ nT ∧ nT ≤ 12) (htd : rgZ due 12 1000000) (htl : rgZ lat 12 1000000) (htw : rgZ wk 12 50) (hnE : 0 ≤ nE ∧ nE ≤ 12) (hed : rgZ tk 12 1000000) (hew : rgZ ld 12 50) (hev : ∀ k : Int, 0 ≤ k → k < nE → now ≤ tk k) (hst : 0 ≤ st ∧ st ≤ 3) (hasl : 0 ≤ asl ∧ asl ≤ now) (hrl : 0 ≤ rule ∧ rule ≤ 2) (hav : 0 ≤ av ∧ av ≤ 50000) (hbd : 0 ≤ bd ∧ bd ≤ 100000) (hhv : rgZ hv 24 1000) (hpe : 0 ≤ pe ∧ pe ≤ 1000000) : zMv l yX8_playsOne wsX8_playsOne rmX8_playsOne (dC, dI) (zT cI cJ cZ) (wM cI cJ cZ q pw co la vo nC par div dee use mrun nT due lat wk nE tk ld rule now st asl idn idl sp pe tin slp late srv hv av bd sh mL mB thr) [.ref (q 0)] (fun (u9 : Int × Int × Int × Int × (Int → Int) × (Int → Int) × (Int → Int) × Int × (Int → Int) × (Int → Int) × Int × Int × (Int → Int) × Int × Int × Int × Int × Int × Int × (Int → Int) × Int × (Int → Int)) => ((u9.1), (u9.2.1), (u9.2.2.1), (u9.2.2.2.1), (u9.2.2.2.2.1), (u9.2.2.2.2.2.1), (u9.2.2.2.2.2.2.1), (u9.2.2.2.2.2.2.2.1), (u9.2.2.2.2.2.2.2.2.1), (u9.2.2.2.2.2.2.2.2.2.1), (u9.2.2.2.2.2.2.2.2.2.2.1), (u9.2.2.2.2.2.2.2.2.2.2.2.1), (u9.2.2.2.2.2.2.2.2.2.2.2.2.1), (u9.2.2.2.2.2.2.2.2.2.2.2.2.2.1), (u9.2.2.2.2.2.2.2.2.2.2.2.2.2.2.1), (u9.2.2.2.2.2.2.2.2.2.2.2.2.2.2.2.1), (u9.2.2.2.2.2.2.2.2.2.2.2.2.2.2.2.2.1), (u9.2.2.2.2.2.2.2.2.2.2.2.2.2.2.2.2.2.1), (u9.2.2.2.2.2.2.2.2.2.2.2.2.2.2.2.2.2.2.1), (u9.2.2.2.2.2.2.2.2.2.2.2.2.2.2.2.2.2.2.2.1), (u9.2.2.2.2.2.2.2.2.2.2.2.2.2.2.2.2.2.2.2.2.1)) = tkB pw co la hv rule (dzM vo par dee use nC) st asl now nT due lat wk nE tk ld sp pe tin slp late srv av bd sh idl idn ∧ tfZ (u9.2.2.2.2.2.2.2.2.2.2.2.2.2.2.2.2.2.2.2.2.2)) (fun u9 : Int × Int × Int × Int × (Int → Int) × (Int → Int) × (Int → Int) × Int × (Int → Int) × (Int → Int) × Int × Int × (Int → Int) × Int × Int × Int × Int × Int × Int × (Int → Int) × Int × (Int → Int) => wM cI cJ cZ q pw co la vo nC par div dee use (u9.2.2.2.2.2.2.2.2.2.2.2.2.2.2.2.2.2.2.2.2.2) (u9.2.2.2.1) (u9.2.2.2.2.1) (u9.2.2.2.2.2.1) (u9.2.2.2.2.2.2.1) (u9.2.2.2.2.2.2.2.1) (u9.2.2.2.2.2.2.2.2.1) (u9.2.2.2.2.2.2.2.2.2.1) rule (u9.2.2.1) (u9.1) (u9.2.1) (u9.2.2.2.2.2.2.2.2.2.2.2.2.2.2.2.2.2.2.2.2.1) (u9.2.2.2.2.2.2.2.2.2.2.2.2.2.2.2.2.2.2.2.1) (u9.2.2.2.2.2.2.2.2.2.2.1) (u9.2.2.2.2.2.2.2.2.2.2.2.1) (u9.2.2.2.2.2.2.2.2.2.2.2.2.1) (u9.2.2.2.2.2.2.2.2.2.2.2.2.2.1) (u9.2.2.2.2.2.2.2.2.2.2.2.2.2.2.1) (u9.2.2.2.2.2.2.2.2.2.2.2.2.2.2.2.1) hv (u9.2.2.2.2.2.2.2.2.2.2.2.2.2.2.2.2.1) (u9.2.2.2.2.2.2.2.2.2.2.2.2.2.2.2.2.2.1) (u9.2.2.2.2.2.2.2.2.2.2.2.2.2.2.2.2.2.2.1) mL mB thr) 0 0 := by
  refine zent_v (cc := cX8_playsOne) (maxL := 1) (ret := none) (by decide +kernel) rfl (Nat.le_of_ble_eq_true rfl) ?_
  intro p e s m below meth c A ls hE hP hK hA hD hS hl
  obtain ⟨hx, hb, hr, hml, hown, hts, hlocks, hmn⟩ := hE
  have hinX8 : ∀ w ∈ u_ws RX8 TX8 36, w ∈ wsX8_playsOne := by decide +kernel
  have hl : lv_has ls 1 [(0, .ref (q 0))] := hl
  refine z_gen (fun Q hQ => ?_)
  have hdz := dzM_r (par := par) (use := use) hvo hde hnC
  refine lv_aload_n hx hb dX8_playsOne_0 rfl (lv_at hl 0 rfl) ?_
  refine zc_v (va_runV (As := []) (rest := []) ⟨hx, hb, hml, hown, hts⟩ (kX8_mayWake l dC dI cI cJ cZ q pw co la vo nC par div dee use mrun nT due lat wk nE tk ld rule now st asl idn idl sp pe tin slp late srv hv av bd sh mL mB thr (by first | assumption | omega | exact b2i_01 _) (by first | assumption | omega | exact b2i_01 _) (by first | assumption | omega | exact b2i_01 _) (by first | assumption | omega | exact b2i_01 _) (by first | assumption | omega | exact b2i_01 _) (by first | assumption | omega | exact b2i_01 _) (by first | assumption | omega | exact b2i_01 _) (by first | assumption | omega | exact b2i_01 _) (by first | assumption | omega | exact b2i_01 _) (by first | assumption | omega | exact b2i_01 _) (by first | assumption | omega | exact b2i_01 _) (by first | assumption | omega | exact b2i_01 _) (by first | assumption | omega | exact b2i_01 _) (by first | assumption | omega | exact b2i_01 _) (by first | assumption | omega | exact b2i_01 _) s.heap.size) (cwV 0 hts gX8_playsOne_X8_mayWake rfl rfl rfl (by decide +kernel) ⟨Nat.le_of_ble_eq_true rfl, Nat.le_of_ble_eq_true rfl⟩) (zpV hK hP hD [0, 1, 2, 3, 4, 5, 6, 7, 8, 9, 10, 11, 12, 13, 14, 15, 16, 17, 18, 19] rfl rfl 0 rfl rfl) rfl rfl hl.1 rfl (lv_room (Nat.le_of_ble_eq_true rfl)) dX8_playsOne_1 ⟨Nat.le_of_ble_eq_true rfl, Nat.le_of_ble_eq_true rfl⟩) hP hD hS hA [0, 1, 2, 3, 4, 5, 6, 7, 8, 9, 10, 11, 12, 13, 14, 15, 16, 17, 18, 19] [] rfl rfl rfl (by decide) (fun u_2 H locs r_1 hP hD hS => ?_)
  obtain ⟨stx_4, spx_5, pex_6, latex_7, idlx_8, idnx_9⟩ := u_2
  have r_1 : (stx_4, spx_5, pex_6, latex_7, idlx_8, idnx_9) = w1F pw la (nxZ lat nT) (adZ tk now nE) st asl now sp pe late idl idn := r_1
  have hP : va_P (dC, dI) vwCl (wM cI cJ cZ q pw co la vo nC par div dee use mrun nT due lat wk nE tk ld rule now stx_4 asl idnx_9 idlx_8 spx_5 pex_6 tin slp latex_7 srv hv av bd sh mL mB thr) H := hP
  have hD : va_D A (wM cI cJ cZ q pw co la vo nC par div dee use mrun nT due lat wk nE tk ld rule now stx_4 asl idnx_9 idlx_8 spx_5 pex_6 tin slp latex_7 srv hv av bd sh mL mB thr) := hD
  have hw1 := r_1
  have hw2 := w1_r hpw hla hst hw1
  have hi9 := w1_d hidl hasl (by omega) hw1
  have L19 : ∀ (st2 : Int) (asl2 : Int) (nT2 : Int) (due2 : Int → Int) (lat2 : Int → Int) (wk2 : Int → Int) (nE2 : Int) (tk2 : Int → Int) (ld2 : Int → Int) (slp2 : Int) (sp2 : Int) (pe2 : Int) (srv2 : Int) (mrun2 : Int → Int), ((st2, asl2, nT2, due2, lat2, wk2, nE2, tk2, ld2, slp2, sp2, pe2, srv2) = sgF pw co la rule (dzM vo par dee use nC) stx_4 asl now nT due lat wk nE tk ld slp spx_5 pex_6 srv idlx_8 idnx_9) → (tfZ mrun2) → ∀ (H : Heap) (locs : List Loc), va_P (dC, dI) vwCl (wM cI cJ cZ q pw co la vo nC par div dee use mrun2 nT2 due2 lat2 wk2 nE2 tk2 ld2 rule now st2 asl2 idnx_9 idlx_8 sp2 pe2 tin slp2 latex_7 srv2 hv av bd sh mL mB thr) H → va_D A (wM cI cJ cZ q pw co la vo nC par div dee use mrun2 nT2 due2 lat2 wk2 nE2 tk2 ld2 rule now st2 asl2 idnx_9 idlx_8 sp2 pe2 tin slp2 latex_7 srv2 hv av bd sh mL mB thr) → va_S A s.heap H locs → ∀ ls : Array Slot, lv_has ls 1 [(0, .ref (q 0))] → W p l e rmX8_playsOne s m ([.ref (q 0)] : List Value).toArray below meth c H locs 0 0 Q (F0 m 19 ls []) := by
    intro st2 asl2 nT2 due2 lat2 wk2 nE2 tk2 ld2 slp2 sp2 pe2 srv2 mrun2 hg1 hmr2 H locs hP hD hS ls hl
    have hg2 := sg_r hpw hco hdz (by omega) hasl hnT htd htl htw hnE hed hew hg1
    obtain ⟨r1, r2, r3, r4, r5, r6, r7, r8, r9, r10, r11⟩ := hg2
    have p1 := po_r (la := la) (nx := nxZ lat2 nT2) (now := now) hpw r1
    have hx9 := nx_r r5 r3
    have hla9 := hla st2 (by omega) (by omega)
    refine lv_aload_n hx hb dX8_playsOne_19 rfl (lv_at hl 0 rfl) ?_
    refine lv_aload_n hx hb dX8_playsOne_20 rfl (lv_at hl 0 rfl) ?_
    refine va_get (D := (dC, dI)) (ci := 8) (v := .int (iI st2)) (C := RX8) (T := TX8) (N := 36) hx hb hts hinX8 hown hK.1 hP 0 rfl rfl 19 (by decide) (hts _ (List.mem_of_getElem? (i := 1) rfl)) (fun _ h9 => h9) rfl dX8_playsOne_21 ?_
    refine zi_fle (tgt := 61) hx hb (by omega) dX8_playsOne_24 (by decide) (fun c_10 => ?_) (fun c_10 => ?_)
    · skip
      refine lv_aload_n hx hb dX8_playsOne_61 rfl (lv_at hl 0 rfl) ?_
      refine va_get (D := (dC, dI)) (ci := 8) (v := .ref (q 1)) (C := RX8) (T := TX8) (N := 36) hx hb hts hinX8 hown hK.1 hP 0 rfl rfl 0 (by decide) (hts _ (List.mem_of_getElem? (i := 4) rfl)) (fun _ h9 => h9) rfl dX8_playsOne_62 ?_
      refine lv_iconst (v := iI 0) hx hb dX8_playsOne_65 rfl ?_
      refine za_ld hx hb hK hP 1 0 rfl rfl (by omega) (by omega) dX8_playsOne_66 ?_
      have e_11 := hpw 0 (by omega) (by omega)
      refine zi_l hx hb (by omega) dX8_playsOne_67 ?_
      refine ze_l (y := poZ pw la st2 (nxZ lat2 nT2) now) (by unfold poZ; exact (if_neg (by omega)).symm) ?_
      refine zc_v (va_runV (As := [.long (lI (poZ pw la st2 (nxZ lat2 nT2) now))]) (rest := []) ⟨hx, hb, hml, hown, hts⟩ (kX8_spends l dC dI cI cJ cZ q pw co la vo nC par div dee use mrun2 nT2 due2 lat2 wk2 nE2 tk2 ld2 rule now st2 asl2 idnx_9 idlx_8 sp2 pe2 tin slp2 latex_7 srv2 hv av bd sh mL mB thr (poZ pw la st2 (nxZ lat2 nT2) now) H.size) (cwV 1 hts gX8_playsOne_X8_spends rfl rfl rfl (by decide +kernel) ⟨Nat.le_of_ble_eq_true rfl, Nat.le_of_ble_eq_true rfl⟩) (zpV hK hP hD [0, 1, 2, 3, 4, 5, 6, 7, 8, 9, 10, 11, 12, 13, 14, 15, 16, 17, 18, 19] rfl rfl 0 rfl rfl) rfl rfl hl.1 rfl (lv_room (Nat.le_of_ble_eq_true rfl)) dX8_playsOne_68 ⟨Nat.le_of_ble_eq_true rfl, Nat.le_of_ble_eq_true rfl⟩) hP hD hS hA [0, 1, 2, 3, 4, 5, 6, 7, 8, 9, 10, 11, 12, 13, 14, 15, 16, 17, 18, 19] [] rfl rfl rfl (by decide) (fun u_13 H locs r_12 hP hD hS => ?_)
      have hP : va_P (dC, dI) vwCl (wM cI cJ cZ q pw co la vo nC par div dee use mrun2 nT2 due2 lat2 wk2 nE2 tk2 ld2 rule now st2 asl2 idnx_9 idlx_8 (sp2 + (poZ pw la st2 (nxZ lat2 nT2) now)) (pe2 + (poZ pw la st2 (nxZ lat2 nT2) now)) tin slp2 latex_7 srv2 hv av bd sh mL mB thr) H := hP
      have hD : va_D A (wM cI cJ cZ q pw co la vo nC par div dee use mrun2 nT2 due2 lat2 wk2 nE2 tk2 ld2 rule now st2 asl2 idnx_9 idlx_8 (sp2 + (poZ pw la st2 (nxZ lat2 nT2) now)) (pe2 + (poZ pw la st2 (nxZ lat2 nT2) now)) tin slp2 latex_7 srv2 hv av bd sh mL mB thr) := hD
      refine lv_aload_n hx hb dX8_playsOne_71 rfl (lv_at hl 0 rfl) ?_
      refine va_get (D := (dC, dI)) (ci := 8) (v := .ref (q 16)) (C := RX8) (T := TX8) (N := 36) hx hb hts hinX8 hown hK.1 hP 0 rfl rfl 25 (by decide) (hts _ (List.mem_of_getElem? (i := 5) rfl)) (fun _ h9 => h9) rfl dX8_playsOne_72 ?_
      refine lv_aload_n hx hb dX8_playsOne_75 rfl (lv_at hl 0 rfl) ?_
      refine va_get (D := (dC, dI)) (ci := 8) (v := .int (iI st2)) (C := RX8) (T := TX8) (N := 36) hx hb hts hinX8 hown hK.1 hP 0 rfl rfl 19 (by decide) (hts _ (List.mem_of_getElem? (i := 1) rfl)) (fun _ h9 => h9) rfl dX8_playsOne_76 ?_
      refine lv_dup2_11 hx hb dX8_playsOne_79 rfl rfl ?_
      refine za_ld hx hb hK hP 16 0 rfl rfl (by omega) (by omega) dX8_playsOne_80 ?_
      refine lv_iconst (v := iI 1) hx hb dX8_playsOne_81 rfl ?_
      refine zi_add hx hb dX8_playsOne_82 ?_
      refine za_st hx hb hK hP hD hS 16 0 rfl rfl (by omega) (by omega) dX8_playsOne_83 (fun H locs hP hD hS => ?_)
      have hP : va_P (dC, dI) vwCl (wM cI cJ cZ q pw co la vo nC par div dee use mrun2 nT2 due2 lat2 wk2 nE2 tk2 ld2 rule now st2 asl2 idnx_9 idlx_8 (sp2 + (poZ pw la st2 (nxZ lat2 nT2) now)) (pe2 + (poZ pw la st2 (nxZ lat2 nT2) now)) (uZ tin st2 ((tin st2) + 1)) slp2 latex_7 srv2 hv av bd sh mL mB thr) H := hP
      have hD : va_D A (wM cI cJ cZ q pw co la vo nC par div dee use mrun2 nT2 due2 lat2 wk2 nE2 tk2 ld2 rule now st2 asl2 idnx_9 idlx_8 (sp2 + (poZ pw la st2 (nxZ lat2 nT2) now)) (pe2 + (poZ pw la st2 (nxZ lat2 nT2) now)) (uZ tin st2 ((tin st2) + 1)) slp2 latex_7 srv2 hv av bd sh mL mB thr) := hD
      refine lv_aload_n hx hb dX8_playsOne_84 rfl (lv_at hl 0 rfl) ?_
      refine zc_v (va_runV (As := []) (rest := []) ⟨hx, hb, hml, hown, hts⟩ (kX8_battery l dC dI cI cJ cZ q pw co la vo nC par div dee use mrun2 nT2 due2 lat2 wk2 nE2 tk2 ld2 rule now st2 asl2 idnx_9 idlx_8 (sp2 + (poZ pw la st2 (nxZ lat2 nT2) now)) (pe2 + (poZ pw la st2 (nxZ lat2 nT2) now)) (uZ tin st2 ((tin st2) + 1)) slp2 latex_7 srv2 hv av bd sh mL mB thr (by first | assumption | omega | exact b2i_01 _) (by first | assumption | omega | exact b2i_01 _) (by first | assumption | omega | exact b2i_01 _) (by first | assumption | omega | exact b2i_01 _) (by first | assumption | omega | exact b2i_01 _) H.size) (cwV 0 hts gX8_playsOne_X8_battery rfl rfl rfl (by decide +kernel) ⟨Nat.le_of_ble_eq_true rfl, Nat.le_of_ble_eq_true rfl⟩) (zpV hK hP hD [0, 1, 2, 3, 4, 5, 6, 7, 8, 9, 10, 11, 12, 13, 14, 15, 16, 17, 18, 19] rfl rfl 0 rfl rfl) rfl rfl hl.1 rfl (lv_room (Nat.le_of_ble_eq_true rfl)) dX8_playsOne_85 ⟨Nat.le_of_ble_eq_true rfl, Nat.le_of_ble_eq_true rfl⟩) hP hD hS hA [0, 1, 2, 3, 4, 5, 6, 7, 8, 9, 10, 11, 12, 13, 14, 15, 16, 17, 18, 19] [] rfl rfl rfl (by decide) (fun u_16 H locs r_15 hP hD hS => ?_)
      have hP : va_P (dC, dI) vwCl (wM cI cJ cZ q pw co la vo nC par div dee use mrun2 nT2 due2 lat2 wk2 nE2 tk2 ld2 rule now st2 asl2 idnx_9 idlx_8 (sp2 + (poZ pw la st2 (nxZ lat2 nT2) now)) 0 (uZ tin st2 ((tin st2) + 1)) slp2 latex_7 srv2 hv (avZ av (hv (now / 60 % 24)) (pe2 + (poZ pw la st2 (nxZ lat2 nT2) now)) + flZ (avZ av (hv (now / 60 % 24)) (pe2 + (poZ pw la st2 (nxZ lat2 nT2) now))) bd) (bd - flZ (avZ av (hv (now / 60 % 24)) (pe2 + (poZ pw la st2 (nxZ lat2 nT2) now))) bd) (if av + hv (now / 60 % 24) - (pe2 + (poZ pw la st2 (nxZ lat2 nT2) now)) < 0 then sh + 1 else sh) mL mB thr) H := hP
      have hD : va_D A (wM cI cJ cZ q pw co la vo nC par div dee use mrun2 nT2 due2 lat2 wk2 nE2 tk2 ld2 rule now st2 asl2 idnx_9 idlx_8 (sp2 + (poZ pw la st2 (nxZ lat2 nT2) now)) 0 (uZ tin st2 ((tin st2) + 1)) slp2 latex_7 srv2 hv (avZ av (hv (now / 60 % 24)) (pe2 + (poZ pw la st2 (nxZ lat2 nT2) now)) + flZ (avZ av (hv (now / 60 % 24)) (pe2 + (poZ pw la st2 (nxZ lat2 nT2) now))) bd) (bd - flZ (avZ av (hv (now / 60 % 24)) (pe2 + (poZ pw la st2 (nxZ lat2 nT2) now))) bd) (if av + hv (now / 60 % 24) - (pe2 + (poZ pw la st2 (nxZ lat2 nT2) now)) < 0 then sh + 1 else sh) mL mB thr) := hD
      refine lv_aload_n hx hb dX8_playsOne_88 rfl (lv_at hl 0 rfl) ?_
      refine lv_dup hx hb dX8_playsOne_89 rfl ?_
      refine va_get (D := (dC, dI)) (ci := 8) (v := .int (iI now)) (C := RX8) (T := TX8) (N := 36) hx hb hts hinX8 hown hK.1 hP 0 rfl rfl 18 (by decide) (hts _ (List.mem_of_getElem? (i := 2) rfl)) (fun _ h9 => h9) rfl dX8_playsOne_90 ?_
      refine lv_iconst (v := iI 1) hx hb dX8_playsOne_93 rfl ?_
      refine zi_add hx hb dX8_playsOne_94 ?_
      refine va_put (D := (dC, dI)) (ci := 8) (v := .int (iI (now + 1))) (ty := .int) (C := RX8) (T := TX8) (N := 36) hx hb hts hinX8 tyX8 tyX8_ok nmX8 hown hK.1 hP hD hS 0 rfl rfl 18 (by decide) (hts _ (List.mem_of_getElem? (i := 2) rfl)) (fun _ h9 => h9) rfl (by decide +kernel) rfl rfl (Nat.le_of_ble_eq_true rfl) dX8_playsOne_95 (fun H locs hP hD hS => ?_)
      have hP : va_P (dC, dI) vwCl (wM cI cJ cZ q pw co la vo nC par div dee use mrun2 nT2 due2 lat2 wk2 nE2 tk2 ld2 rule (now + 1) st2 asl2 idnx_9 idlx_8 (sp2 + (poZ pw la st2 (nxZ lat2 nT2) now)) 0 (uZ tin st2 ((tin st2) + 1)) slp2 latex_7 srv2 hv (avZ av (hv (now / 60 % 24)) (pe2 + (poZ pw la st2 (nxZ lat2 nT2) now)) + flZ (avZ av (hv (now / 60 % 24)) (pe2 + (poZ pw la st2 (nxZ lat2 nT2) now))) bd) (bd - flZ (avZ av (hv (now / 60 % 24)) (pe2 + (poZ pw la st2 (nxZ lat2 nT2) now))) bd) (if av + hv (now / 60 % 24) - (pe2 + (poZ pw la st2 (nxZ lat2 nT2) now)) < 0 then sh + 1 else sh) mL mB thr) H := hP
      have hD : va_D A (wM cI cJ cZ q pw co la vo nC par div dee use mrun2 nT2 due2 lat2 wk2 nE2 tk2 ld2 rule (now + 1) st2 asl2 idnx_9 idlx_8 (sp2 + (poZ pw la st2 (nxZ lat2 nT2) now)) 0 (uZ tin st2 ((tin st2) + 1)) slp2 latex_7 srv2 hv (avZ av (hv (now / 60 % 24)) (pe2 + (poZ pw la st2 (nxZ lat2 nT2) now)) + flZ (avZ av (hv (now / 60 % 24)) (pe2 + (poZ pw la st2 (nxZ lat2 nT2) now))) bd) (bd - flZ (avZ av (hv (now / 60 % 24)) (pe2 + (poZ pw la st2 (nxZ lat2 nT2) now))) bd) (if av + hv (now / 60 % 24) - (pe2 + (poZ pw la st2 (nxZ lat2 nT2) now)) < 0 then sh + 1 else sh) mL mB thr) := hD
      subst hQ
      exact zret_v (W1 := fun u9 : Int × Int × Int × Int × (Int → Int) × (Int → Int) × (Int → Int) × Int × (Int → Int) × (Int → Int) × Int × Int × (Int → Int) × Int × Int × Int × Int × Int × Int × (Int → Int) × Int × (Int → Int) => wM cI cJ cZ q pw co la vo nC par div dee use (u9.2.2.2.2.2.2.2.2.2.2.2.2.2.2.2.2.2.2.2.2.2) (u9.2.2.2.1) (u9.2.2.2.2.1) (u9.2.2.2.2.2.1) (u9.2.2.2.2.2.2.1) (u9.2.2.2.2.2.2.2.1) (u9.2.2.2.2.2.2.2.2.1) (u9.2.2.2.2.2.2.2.2.2.1) rule (u9.2.2.1) (u9.1) (u9.2.1) (u9.2.2.2.2.2.2.2.2.2.2.2.2.2.2.2.2.2.2.2.2.1) (u9.2.2.2.2.2.2.2.2.2.2.2.2.2.2.2.2.2.2.2.1) (u9.2.2.2.2.2.2.2.2.2.2.1) (u9.2.2.2.2.2.2.2.2.2.2.2.1) (u9.2.2.2.2.2.2.2.2.2.2.2.2.1) (u9.2.2.2.2.2.2.2.2.2.2.2.2.2.1) (u9.2.2.2.2.2.2.2.2.2.2.2.2.2.2.1) (u9.2.2.2.2.2.2.2.2.2.2.2.2.2.2.2.1) hv (u9.2.2.2.2.2.2.2.2.2.2.2.2.2.2.2.2.1) (u9.2.2.2.2.2.2.2.2.2.2.2.2.2.2.2.2.2.1) (u9.2.2.2.2.2.2.2.2.2.2.2.2.2.2.2.2.2.2.1) mL mB thr) (st2, asl2, now + 1, nT2, due2, lat2, wk2, nE2, tk2, ld2, sp2 + (poZ pw la st2 (nxZ lat2 nT2) now), 0, uZ tin st2 ((tin st2) + 1), slp2, latex_7, srv2, avZ av (hv (now / 60 % 24)) (pe2 + (poZ pw la st2 (nxZ lat2 nT2) now)) + flZ (avZ av (hv (now / 60 % 24)) (pe2 + (poZ pw la st2 (nxZ lat2 nT2) now))) bd, bd - flZ (avZ av (hv (now / 60 % 24)) (pe2 + (poZ pw la st2 (nxZ lat2 nT2) now))) bd, if av + hv (now / 60 % 24) - (pe2 + (poZ pw la st2 (nxZ lat2 nT2) now)) < 0 then sh + 1 else sh, idlx_8, idnx_9, mrun2) hx hb hr hP hD hS hlocks dX8_playsOne_98 (by refine ⟨?_, hmr2⟩; unfold tkB tkC; rw [← hw1]; dsimp only; rw [← hg1]; rfl)
    · skip
      refine lv_aload_n hx hb dX8_playsOne_27 rfl (lv_at hl 0 rfl) ?_
      refine zc_pi (va_runV (As := []) (rest := [.ref (q 0)]) ⟨hx, hb, hml, hown, hts⟩ (kX8_next l dC dI cI cJ cZ q pw co la vo nC par div dee use mrun2 nT2 due2 lat2 wk2 nE2 tk2 ld2 rule now st2 asl2 idnx_9 idlx_8 sp2 pe2 tin slp2 latex_7 srv2 hv av bd sh mL mB thr (by first | assumption | omega | exact b2i_01 _) (by first | assumption | omega | exact b2i_01 _) (by first | assumption | omega | exact b2i_01 _) (by first | assumption | omega | exact b2i_01 _)) (cwV 0 hts gX8_playsOne_X8_next rfl rfl rfl (by decide +kernel) ⟨Nat.le_of_ble_eq_true rfl, Nat.le_of_ble_eq_true rfl⟩) (zqV hK hP [0, 1, 2, 3, 4, 5, 6, 7, 8, 9, 10, 11, 12, 13, 14, 15, 16, 17, 18, 19] rfl 0 rfl rfl) rfl rfl hl.1 rfl (lv_room (Nat.le_of_ble_eq_true rfl)) dX8_playsOne_28 ⟨Nat.le_of_ble_eq_true rfl, Nat.le_of_ble_eq_true rfl⟩) ?_
      refine lv_aload_n hx hb dX8_playsOne_31 rfl (lv_at hl 0 rfl) ?_
      refine va_get (D := (dC, dI)) (ci := 8) (v := .int (iI now)) (C := RX8) (T := TX8) (N := 36) hx hb hts hinX8 hown hK.1 hP 0 rfl rfl 18 (by decide) (hts _ (List.mem_of_getElem? (i := 2) rfl)) (fun _ h9 => h9) rfl dX8_playsOne_32 ?_
      refine zi_sub hx hb dX8_playsOne_35 ?_
      refine lv_aload_n hx hb dX8_playsOne_36 rfl (lv_at hl 0 rfl) ?_
      refine va_get (D := (dC, dI)) (ci := 8) (v := .ref (q 3)) (C := RX8) (T := TX8) (N := 36) hx hb hts hinX8 hown hK.1 hP 0 rfl rfl 2 (by decide) (hts _ (List.mem_of_getElem? (i := 3) rfl)) (fun _ h9 => h9) rfl dX8_playsOne_37 ?_
      refine lv_aload_n hx hb dX8_playsOne_40 rfl (lv_at hl 0 rfl) ?_
      refine va_get (D := (dC, dI)) (ci := 8) (v := .int (iI st2)) (C := RX8) (T := TX8) (N := 36) hx hb hts hinX8 hown hK.1 hP 0 rfl rfl 19 (by decide) (hts _ (List.mem_of_getElem? (i := 1) rfl)) (fun _ h9 => h9) rfl dX8_playsOne_41 ?_
      refine za_ld hx hb hK hP 3 0 rfl rfl (by omega) (by omega) dX8_playsOne_44 ?_
      have e_18 := hla st2 (by omega) (by omega)
      refine zi_cle (tgt := 61) hx hb (by omega) (by omega) dX8_playsOne_45 (by decide) (fun c_19 => ?_) (fun c_19 => ?_)
      · skip
        refine lv_aload_n hx hb dX8_playsOne_61 rfl (lv_at hl 0 rfl) ?_
        refine va_get (D := (dC, dI)) (ci := 8) (v := .ref (q 1)) (C := RX8) (T := TX8) (N := 36) hx hb hts hinX8 hown hK.1 hP 0 rfl rfl 0 (by decide) (hts _ (List.mem_of_getElem? (i := 4) rfl)) (fun _ h9 => h9) rfl dX8_playsOne_62 ?_
        refine lv_iconst (v := iI 0) hx hb dX8_playsOne_65 rfl ?_
        refine za_ld hx hb hK hP 1 0 rfl rfl (by omega) (by omega) dX8_playsOne_66 ?_
        have e_20 := hpw 0 (by omega) (by omega)
        refine zi_l hx hb (by omega) dX8_playsOne_67 ?_
        refine ze_l (y := poZ pw la st2 (nxZ lat2 nT2) now) (by unfold poZ; exact (if_neg (by omega)).symm) ?_
        refine zc_v (va_runV (As := [.long (lI (poZ pw la st2 (nxZ lat2 nT2) now))]) (rest := []) ⟨hx, hb, hml, hown, hts⟩ (kX8_spends l dC dI cI cJ cZ q pw co la vo nC par div dee use mrun2 nT2 due2 lat2 wk2 nE2 tk2 ld2 rule now st2 asl2 idnx_9 idlx_8 sp2 pe2 tin slp2 latex_7 srv2 hv av bd sh mL mB thr (poZ pw la st2 (nxZ lat2 nT2) now) H.size) (cwV 1 hts gX8_playsOne_X8_spends rfl rfl rfl (by decide +kernel) ⟨Nat.le_of_ble_eq_true rfl, Nat.le_of_ble_eq_true rfl⟩) (zpV hK hP hD [0, 1, 2, 3, 4, 5, 6, 7, 8, 9, 10, 11, 12, 13, 14, 15, 16, 17, 18, 19] rfl rfl 0 rfl rfl) rfl rfl hl.1 rfl (lv_room (Nat.le_of_ble_eq_true rfl)) dX8_playsOne_68 ⟨Nat.le_of_ble_eq_true rfl, Nat.le_of_ble_eq_true rfl⟩) hP hD hS hA [0, 1, 2, 3, 4, 5, 6, 7, 8, 9, 10, 11, 12, 13, 14, 15, 16, 17, 18, 19] [] rfl rfl rfl (by decide) (fun u_22 H locs r_21 hP hD hS => ?_)
        have hP : va_P (dC, dI) vwCl (wM cI cJ cZ q pw co la vo nC par div dee use mrun2 nT2 due2 lat2 wk2 nE2 tk2 ld2 rule now st2 asl2 idnx_9 idlx_8 (sp2 + (poZ pw la st2 (nxZ lat2 nT2) now)) (pe2 + (poZ pw la st2 (nxZ lat2 nT2) now)) tin slp2 latex_7 srv2 hv av bd sh mL mB thr) H := hP
        have hD : va_D A (wM cI cJ cZ q pw co la vo nC par div dee use mrun2 nT2 due2 lat2 wk2 nE2 tk2 ld2 rule now st2 asl2 idnx_9 idlx_8 (sp2 + (poZ pw la st2 (nxZ lat2 nT2) now)) (pe2 + (poZ pw la st2 (nxZ lat2 nT2) now)) tin slp2 latex_7 srv2 hv av bd sh mL mB thr) := hD
        refine lv_aload_n hx hb dX8_playsOne_71 rfl (lv_at hl 0 rfl) ?_
        refine va_get (D := (dC, dI)) (ci := 8) (v := .ref (q 16)) (C := RX8) (T := TX8) (N := 36) hx hb hts hinX8 hown hK.1 hP 0 rfl rfl 25 (by decide) (hts _ (List.mem_of_getElem? (i := 5) rfl)) (fun _ h9 => h9) rfl dX8_playsOne_72 ?_
        refine lv_aload_n hx hb dX8_playsOne_75 rfl (lv_at hl 0 rfl) ?_
        refine va_get (D := (dC, dI)) (ci := 8) (v := .int (iI st2)) (C := RX8) (T := TX8) (N := 36) hx hb hts hinX8 hown hK.1 hP 0 rfl rfl 19 (by decide) (hts _ (List.mem_of_getElem? (i := 1) rfl)) (fun _ h9 => h9) rfl dX8_playsOne_76 ?_
        refine lv_dup2_11 hx hb dX8_playsOne_79 rfl rfl ?_
        refine za_ld hx hb hK hP 16 0 rfl rfl (by omega) (by omega) dX8_playsOne_80 ?_
        refine lv_iconst (v := iI 1) hx hb dX8_playsOne_81 rfl ?_
        refine zi_add hx hb dX8_playsOne_82 ?_
        refine za_st hx hb hK hP hD hS 16 0 rfl rfl (by omega) (by omega) dX8_playsOne_83 (fun H locs hP hD hS => ?_)
        have hP : va_P (dC, dI) vwCl (wM cI cJ cZ q pw co la vo nC par div dee use mrun2 nT2 due2 lat2 wk2 nE2 tk2 ld2 rule now st2 asl2 idnx_9 idlx_8 (sp2 + (poZ pw la st2 (nxZ lat2 nT2) now)) (pe2 + (poZ pw la st2 (nxZ lat2 nT2) now)) (uZ tin st2 ((tin st2) + 1)) slp2 latex_7 srv2 hv av bd sh mL mB thr) H := hP
        have hD : va_D A (wM cI cJ cZ q pw co la vo nC par div dee use mrun2 nT2 due2 lat2 wk2 nE2 tk2 ld2 rule now st2 asl2 idnx_9 idlx_8 (sp2 + (poZ pw la st2 (nxZ lat2 nT2) now)) (pe2 + (poZ pw la st2 (nxZ lat2 nT2) now)) (uZ tin st2 ((tin st2) + 1)) slp2 latex_7 srv2 hv av bd sh mL mB thr) := hD
        refine lv_aload_n hx hb dX8_playsOne_84 rfl (lv_at hl 0 rfl) ?_
        refine zc_v (va_runV (As := []) (rest := []) ⟨hx, hb, hml, hown, hts⟩ (kX8_battery l dC dI cI cJ cZ q pw co la vo nC par div dee use mrun2 nT2 due2 lat2 wk2 nE2 tk2 ld2 rule now st2 asl2 idnx_9 idlx_8 (sp2 + (poZ pw la st2 (nxZ lat2 nT2) now)) (pe2 + (poZ pw la st2 (nxZ lat2 nT2) now)) (uZ tin st2 ((tin st2) + 1)) slp2 latex_7 srv2 hv av bd sh mL mB thr (by first | assumption | omega | exact b2i_01 _) (by first | assumption | omega | exact b2i_01 _) (by first | assumption | omega | exact b2i_01 _) (by first | assumption | omega | exact b2i_01 _) (by first | assumption | omega | exact b2i_01 _) H.size) (cwV 0 hts gX8_playsOne_X8_battery rfl rfl rfl (by decide +kernel) ⟨Nat.le_of_ble_eq_true rfl, Nat.le_of_ble_eq_true rfl⟩) (zpV hK hP hD [0, 1, 2, 3, 4, 5, 6, 7, 8, 9, 10, 11, 12, 13, 14, 15, 16, 17, 18, 19] rfl rfl 0 rfl rfl) rfl rfl hl.1 rfl (lv_room (Nat.le_of_ble_eq_true rfl)) dX8_playsOne_85 ⟨Nat.le_of_ble_eq_true rfl, Nat.le_of_ble_eq_true rfl⟩) hP hD hS hA [0, 1, 2, 3, 4, 5, 6, 7, 8, 9, 10, 11, 12, 13, 14, 15, 16, 17, 18, 19] [] rfl rfl rfl (by decide) (fun u_25 H locs r_24 hP hD hS => ?_)
        have hP : va_P (dC, dI) vwCl (wM cI cJ cZ q pw co la vo nC par div dee use mrun2 nT2 due2 lat2 wk2 nE2 tk2 ld2 rule now st2 asl2 idnx_9 idlx_8 (sp2 + (poZ pw la st2 (nxZ lat2 nT2) now)) 0 (uZ tin st2 ((tin st2) + 1)) slp2 latex_7 srv2 hv (avZ av (hv (now / 60 % 24)) (pe2 + (poZ pw la st2 (nxZ lat2 nT2) now)) + flZ (avZ av (hv (now / 60 % 24)) (pe2 + (poZ pw la st2 (nxZ lat2 nT2) now))) bd) (bd - flZ (avZ av (hv (now / 60 % 24)) (pe2 + (poZ pw la st2 (nxZ lat2 nT2) now))) bd) (if av + hv (now / 60 % 24) - (pe2 + (poZ pw la st2 (nxZ lat2 nT2) now)) < 0 then sh + 1 else sh) mL mB thr) H := hP
        have hD : va_D A (wM cI cJ cZ q pw co la vo nC par div dee use mrun2 nT2 due2 lat2 wk2 nE2 tk2 ld2 rule now st2 asl2 idnx_9 idlx_8 (sp2 + (poZ pw la st2 (nxZ lat2 nT2) now)) 0 (uZ tin st2 ((tin st2) + 1)) slp2 latex_7 srv2 hv (avZ av (hv (now / 60 % 24)) (pe2 + (poZ pw la st2 (nxZ lat2 nT2) now)) + flZ (avZ av (hv (now / 60 % 24)) (pe2 + (poZ pw la st2 (nxZ lat2 nT2) now))) bd) (bd - flZ (avZ av (hv (now / 60 % 24)) (pe2 + (poZ pw la st2 (nxZ lat2 nT2) now))) bd) (if av + hv (now / 60 % 24) - (pe2 + (poZ pw la st2 (nxZ lat2 nT2) now)) < 0 then sh + 1 else sh) mL mB thr) := hD
        refine lv_aload_n hx hb dX8_playsOne_88 rfl (lv_at hl 0 rfl) ?_
        refine lv_dup hx hb dX8_playsOne_89 rfl ?_
        refine va_get (D := (dC, dI)) (ci := 8) (v := .int (iI now)) (C := RX8) (T := TX8) (N := 36) hx hb hts hinX8 hown hK.1 hP 0 rfl rfl 18 (by decide) (hts _ (List.mem_of_getElem? (i := 2) rfl)) (fun _ h9 => h9) rfl dX8_playsOne_90 ?_
        refine lv_iconst (v := iI 1) hx hb dX8_playsOne_93 rfl ?_
        refine zi_add hx hb dX8_playsOne_94 ?_
        refine va_put (D := (dC, dI)) (ci := 8) (v := .int (iI (now + 1))) (ty := .int) (C := RX8) (T := TX8) (N := 36) hx hb hts hinX8 tyX8 tyX8_ok nmX8 hown hK.1 hP hD hS 0 rfl rfl 18 (by decide) (hts _ (List.mem_of_getElem? (i := 2) rfl)) (fun _ h9 => h9) rfl (by decide +kernel) rfl rfl (Nat.le_of_ble_eq_true rfl) dX8_playsOne_95 (fun H locs hP hD hS => ?_)
        have hP : va_P (dC, dI) vwCl (wM cI cJ cZ q pw co la vo nC par div dee use mrun2 nT2 due2 lat2 wk2 nE2 tk2 ld2 rule (now + 1) st2 asl2 idnx_9 idlx_8 (sp2 + (poZ pw la st2 (nxZ lat2 nT2) now)) 0 (uZ tin st2 ((tin st2) + 1)) slp2 latex_7 srv2 hv (avZ av (hv (now / 60 % 24)) (pe2 + (poZ pw la st2 (nxZ lat2 nT2) now)) + flZ (avZ av (hv (now / 60 % 24)) (pe2 + (poZ pw la st2 (nxZ lat2 nT2) now))) bd) (bd - flZ (avZ av (hv (now / 60 % 24)) (pe2 + (poZ pw la st2 (nxZ lat2 nT2) now))) bd) (if av + hv (now / 60 % 24) - (pe2 + (poZ pw la st2 (nxZ lat2 nT2) now)) < 0 then sh + 1 else sh) mL mB thr) H := hP
        have hD : va_D A (wM cI cJ cZ q pw co la vo nC par div dee use mrun2 nT2 due2 lat2 wk2 nE2 tk2 ld2 rule (now + 1) st2 asl2 idnx_9 idlx_8 (sp2 + (poZ pw la st2 (nxZ lat2 nT2) now)) 0 (uZ tin st2 ((tin st2) + 1)) slp2 latex_7 srv2 hv (avZ av (hv (now / 60 % 24)) (pe2 + (poZ pw la st2 (nxZ lat2 nT2) now)) + flZ (avZ av (hv (now / 60 % 24)) (pe2 + (poZ pw la st2 (nxZ lat2 nT2) now))) bd) (bd - flZ (avZ av (hv (now / 60 % 24)) (pe2 + (poZ pw la st2 (nxZ lat2 nT2) now))) bd) (if av + hv (now / 60 % 24) - (pe2 + (poZ pw la st2 (nxZ lat2 nT2) now)) < 0 then sh + 1 else sh) mL mB thr) := hD
        subst hQ
        exact zret_v (W1 := fun u9 : Int × Int × Int × Int × (Int → Int) × (Int → Int) × (Int → Int) × Int × (Int → Int) × (Int → Int) × Int × Int × (Int → Int) × Int × Int × Int × Int × Int × Int × (Int → Int) × Int × (Int → Int) => wM cI cJ cZ q pw co la vo nC par div dee use (u9.2.2.2.2.2.2.2.2.2.2.2.2.2.2.2.2.2.2.2.2.2) (u9.2.2.2.1) (u9.2.2.2.2.1) (u9.2.2.2.2.2.1) (u9.2.2.2.2.2.2.1) (u9.2.2.2.2.2.2.2.1) (u9.2.2.2.2.2.2.2.2.1) (u9.2.2.2.2.2.2.2.2.2.1) rule (u9.2.2.1) (u9.1) (u9.2.1) (u9.2.2.2.2.2.2.2.2.2.2.2.2.2.2.2.2.2.2.2.2.1) (u9.2.2.2.2.2.2.2.2.2.2.2.2.2.2.2.2.2.2.2.1) (u9.2.2.2.2.2.2.2.2.2.2.1) (u9.2.2.2.2.2.2.2.2.2.2.2.1) (u9.2.2.2.2.2.2.2.2.2.2.2.2.1) (u9.2.2.2.2.2.2.2.2.2.2.2.2.2.1) (u9.2.2.2.2.2.2.2.2.2.2.2.2.2.2.1) (u9.2.2.2.2.2.2.2.2.2.2.2.2.2.2.2.1) hv (u9.2.2.2.2.2.2.2.2.2.2.2.2.2.2.2.2.1) (u9.2.2.2.2.2.2.2.2.2.2.2.2.2.2.2.2.2.1) (u9.2.2.2.2.2.2.2.2.2.2.2.2.2.2.2.2.2.2.1) mL mB thr) (st2, asl2, now + 1, nT2, due2, lat2, wk2, nE2, tk2, ld2, sp2 + (poZ pw la st2 (nxZ lat2 nT2) now), 0, uZ tin st2 ((tin st2) + 1), slp2, latex_7, srv2, avZ av (hv (now / 60 % 24)) (pe2 + (poZ pw la st2 (nxZ lat2 nT2) now)) + flZ (avZ av (hv (now / 60 % 24)) (pe2 + (poZ pw la st2 (nxZ lat2 nT2) now))) bd, bd - flZ (avZ av (hv (now / 60 % 24)) (pe2 + (poZ pw la st2 (nxZ lat2 nT2) now))) bd, if av + hv (now / 60 % 24) - (pe2 + (poZ pw la st2 (nxZ lat2 nT2) now)) < 0 then sh + 1 else sh, idlx_8, idnx_9, mrun2) hx hb hr hP hD hS hlocks dX8_playsOne_98 (by refine ⟨?_, hmr2⟩; unfold tkB tkC; rw [← hw1]; dsimp only; rw [← hg1]; rfl)
      · skip
        refine lv_aload_n hx hb dX8_playsOne_48 rfl (lv_at hl 0 rfl) ?_
        refine va_get (D := (dC, dI)) (ci := 8) (v := .ref (q 1)) (C := RX8) (T := TX8) (N := 36) hx hb hts hinX8 hown hK.1 hP 0 rfl rfl 0 (by decide) (hts _ (List.mem_of_getElem? (i := 4) rfl)) (fun _ h9 => h9) rfl dX8_playsOne_49 ?_
        refine lv_aload_n hx hb dX8_playsOne_52 rfl (lv_at hl 0 rfl) ?_
        refine va_get (D := (dC, dI)) (ci := 8) (v := .int (iI st2)) (C := RX8) (T := TX8) (N := 36) hx hb hts hinX8 hown hK.1 hP 0 rfl rfl 19 (by decide) (hts _ (List.mem_of_getElem? (i := 1) rfl)) (fun _ h9 => h9) rfl dX8_playsOne_53 ?_
        refine za_ld hx hb hK hP 1 0 rfl rfl (by omega) (by omega) dX8_playsOne_56 ?_
        have e_27 := hpw st2 (by omega) (by omega)
        refine zi_l hx hb (by omega) dX8_playsOne_57 ?_
        refine ze_l (y := poZ pw la st2 (nxZ lat2 nT2) now) (by unfold poZ; exact (if_pos (by omega)).symm) ?_
        refine lv_goto (tgt := 68) hx hb dX8_playsOne_58 (by decide) ?_
        refine zc_v (va_runV (As := [.long (lI (poZ pw la st2 (nxZ lat2 nT2) now))]) (rest := []) ⟨hx, hb, hml, hown, hts⟩ (kX8_spends l dC dI cI cJ cZ q pw co la vo nC par div dee use mrun2 nT2 due2 lat2 wk2 nE2 tk2 ld2 rule now st2 asl2 idnx_9 idlx_8 sp2 pe2 tin slp2 latex_7 srv2 hv av bd sh mL mB thr (poZ pw la st2 (nxZ lat2 nT2) now) H.size) (cwV 1 hts gX8_playsOne_X8_spends rfl rfl rfl (by decide +kernel) ⟨Nat.le_of_ble_eq_true rfl, Nat.le_of_ble_eq_true rfl⟩) (zpV hK hP hD [0, 1, 2, 3, 4, 5, 6, 7, 8, 9, 10, 11, 12, 13, 14, 15, 16, 17, 18, 19] rfl rfl 0 rfl rfl) rfl rfl hl.1 rfl (lv_room (Nat.le_of_ble_eq_true rfl)) dX8_playsOne_68 ⟨Nat.le_of_ble_eq_true rfl, Nat.le_of_ble_eq_true rfl⟩) hP hD hS hA [0, 1, 2, 3, 4, 5, 6, 7, 8, 9, 10, 11, 12, 13, 14, 15, 16, 17, 18, 19] [] rfl rfl rfl (by decide) (fun u_29 H locs r_28 hP hD hS => ?_)
        have hP : va_P (dC, dI) vwCl (wM cI cJ cZ q pw co la vo nC par div dee use mrun2 nT2 due2 lat2 wk2 nE2 tk2 ld2 rule now st2 asl2 idnx_9 idlx_8 (sp2 + (poZ pw la st2 (nxZ lat2 nT2) now)) (pe2 + (poZ pw la st2 (nxZ lat2 nT2) now)) tin slp2 latex_7 srv2 hv av bd sh mL mB thr) H := hP
        have hD : va_D A (wM cI cJ cZ q pw co la vo nC par div dee use mrun2 nT2 due2 lat2 wk2 nE2 tk2 ld2 rule now st2 asl2 idnx_9 idlx_8 (sp2 + (poZ pw la st2 (nxZ lat2 nT2) now)) (pe2 + (poZ pw la st2 (nxZ lat2 nT2) now)) tin slp2 latex_7 srv2 hv av bd sh mL mB thr) := hD
        refine lv_aload_n hx hb dX8_playsOne_71 rfl (lv_at hl 0 rfl) ?_
        refine va_get (D := (dC, dI)) (ci := 8) (v := .ref (q 16)) (C := RX8) (T := TX8) (N := 36) hx hb hts hinX8 hown hK.1 hP 0 rfl rfl 25 (by decide) (hts _ (List.mem_of_getElem? (i := 5) rfl)) (fun _ h9 => h9) rfl dX8_playsOne_72 ?_
        refine lv_aload_n hx hb dX8_playsOne_75 rfl (lv_at hl 0 rfl) ?_
        refine va_get (D := (dC, dI)) (ci := 8) (v := .int (iI st2)) (C := RX8) (T := TX8) (N := 36) hx hb hts hinX8 hown hK.1 hP 0 rfl rfl 19 (by decide) (hts _ (List.mem_of_getElem? (i := 1) rfl)) (fun _ h9 => h9) rfl dX8_playsOne_76 ?_
        refine lv_dup2_11 hx hb dX8_playsOne_79 rfl rfl ?_
        refine za_ld hx hb hK hP 16 0 rfl rfl (by omega) (by omega) dX8_playsOne_80 ?_
        refine lv_iconst (v := iI 1) hx hb dX8_playsOne_81 rfl ?_
        refine zi_add hx hb dX8_playsOne_82 ?_
        refine za_st hx hb hK hP hD hS 16 0 rfl rfl (by omega) (by omega) dX8_playsOne_83 (fun H locs hP hD hS => ?_)
        have hP : va_P (dC, dI) vwCl (wM cI cJ cZ q pw co la vo nC par div dee use mrun2 nT2 due2 lat2 wk2 nE2 tk2 ld2 rule now st2 asl2 idnx_9 idlx_8 (sp2 + (poZ pw la st2 (nxZ lat2 nT2) now)) (pe2 + (poZ pw la st2 (nxZ lat2 nT2) now)) (uZ tin st2 ((tin st2) + 1)) slp2 latex_7 srv2 hv av bd sh mL mB thr) H := hP
        have hD : va_D A (wM cI cJ cZ q pw co la vo nC par div dee use mrun2 nT2 due2 lat2 wk2 nE2 tk2 ld2 rule now st2 asl2 idnx_9 idlx_8 (sp2 + (poZ pw la st2 (nxZ lat2 nT2) now)) (pe2 + (poZ pw la st2 (nxZ lat2 nT2) now)) (uZ tin st2 ((tin st2) + 1)) slp2 latex_7 srv2 hv av bd sh mL mB thr) := hD
        refine lv_aload_n hx hb dX8_playsOne_84 rfl (lv_at hl 0 rfl) ?_
        refine zc_v (va_runV (As := []) (rest := []) ⟨hx, hb, hml, hown, hts⟩ (kX8_battery l dC dI cI cJ cZ q pw co la vo nC par div dee use mrun2 nT2 due2 lat2 wk2 nE2 tk2 ld2 rule now st2 asl2 idnx_9 idlx_8 (sp2 + (poZ pw la st2 (nxZ lat2 nT2) now)) (pe2 + (poZ pw la st2 (nxZ lat2 nT2) now)) (uZ tin st2 ((tin st2) + 1)) slp2 latex_7 srv2 hv av bd sh mL mB thr (by first | assumption | omega | exact b2i_01 _) (by first | assumption | omega | exact b2i_01 _) (by first | assumption | omega | exact b2i_01 _) (by first | assumption | omega | exact b2i_01 _) (by first | assumption | omega | exact b2i_01 _) H.size) (cwV 0 hts gX8_playsOne_X8_battery rfl rfl rfl (by decide +kernel) ⟨Nat.le_of_ble_eq_true rfl, Nat.le_of_ble_eq_true rfl⟩) (zpV hK hP hD [0, 1, 2, 3, 4, 5, 6, 7, 8, 9, 10, 11, 12, 13, 14, 15, 16, 17, 18, 19] rfl rfl 0 rfl rfl) rfl rfl hl.1 rfl (lv_room (Nat.le_of_ble_eq_true rfl)) dX8_playsOne_85 ⟨Nat.le_of_ble_eq_true rfl, Nat.le_of_ble_eq_true rfl⟩) hP hD hS hA [0, 1, 2, 3, 4, 5, 6, 7, 8, 9, 10, 11, 12, 13, 14, 15, 16, 17, 18, 19] [] rfl rfl rfl (by decide) (fun u_32 H locs r_31 hP hD hS => ?_)
        have hP : va_P (dC, dI) vwCl (wM cI cJ cZ q pw co la vo nC par div dee use mrun2 nT2 due2 lat2 wk2 nE2 tk2 ld2 rule now st2 asl2 idnx_9 idlx_8 (sp2 + (poZ pw la st2 (nxZ lat2 nT2) now)) 0 (uZ tin st2 ((tin st2) + 1)) slp2 latex_7 srv2 hv (avZ av (hv (now / 60 % 24)) (pe2 + (poZ pw la st2 (nxZ lat2 nT2) now)) + flZ (avZ av (hv (now / 60 % 24)) (pe2 + (poZ pw la st2 (nxZ lat2 nT2) now))) bd) (bd - flZ (avZ av (hv (now / 60 % 24)) (pe2 + (poZ pw la st2 (nxZ lat2 nT2) now))) bd) (if av + hv (now / 60 % 24) - (pe2 + (poZ pw la st2 (nxZ lat2 nT2) now)) < 0 then sh + 1 else sh) mL mB thr) H := hP
        have hD : va_D A (wM cI cJ cZ q pw co la vo nC par div dee use mrun2 nT2 due2 lat2 wk2 nE2 tk2 ld2 rule now st2 asl2 idnx_9 idlx_8 (sp2 + (poZ pw la st2 (nxZ lat2 nT2) now)) 0 (uZ tin st2 ((tin st2) + 1)) slp2 latex_7 srv2 hv (avZ av (hv (now / 60 % 24)) (pe2 + (poZ pw la st2 (nxZ lat2 nT2) now)) + flZ (avZ av (hv (now / 60 % 24)) (pe2 + (poZ pw la st2 (nxZ lat2 nT2) now))) bd) (bd - flZ (avZ av (hv (now / 60 % 24)) (pe2 + (poZ pw la st2 (nxZ lat2 nT2) now))) bd) (if av + hv (now / 60 % 24) - (pe2 + (poZ pw la st2 (nxZ lat2 nT2) now)) < 0 then sh + 1 else sh) mL mB thr) := hD
        refine lv_aload_n hx hb dX8_playsOne_88 rfl (lv_at hl 0 rfl) ?_
        refine lv_dup hx hb dX8_playsOne_89 rfl ?_
        refine va_get (D := (dC, dI)) (ci := 8) (v := .int (iI now)) (C := RX8) (T := TX8) (N := 36) hx hb hts hinX8 hown hK.1 hP 0 rfl rfl 18 (by decide) (hts _ (List.mem_of_getElem? (i := 2) rfl)) (fun _ h9 => h9) rfl dX8_playsOne_90 ?_
        refine lv_iconst (v := iI 1) hx hb dX8_playsOne_93 rfl ?_
        refine zi_add hx hb dX8_playsOne_94 ?_
        refine va_put (D := (dC, dI)) (ci := 8) (v := .int (iI (now + 1))) (ty := .int) (C := RX8) (T := TX8) (N := 36) hx hb hts hinX8 tyX8 tyX8_ok nmX8 hown hK.1 hP hD hS 0 rfl rfl 18 (by decide) (hts _ (List.mem_of_getElem? (i := 2) rfl)) (fun _ h9 => h9) rfl (by decide +kernel) rfl rfl (Nat.le_of_ble_eq_true rfl) dX8_playsOne_95 (fun H locs hP hD hS => ?_)
        have hP : va_P (dC, dI) vwCl (wM cI cJ cZ q pw co la vo nC par div dee use mrun2 nT2 due2 lat2 wk2 nE2 tk2 ld2 rule (now + 1) st2 asl2 idnx_9 idlx_8 (sp2 + (poZ pw la st2 (nxZ lat2 nT2) now)) 0 (uZ tin st2 ((tin st2) + 1)) slp2 latex_7 srv2 hv (avZ av (hv (now / 60 % 24)) (pe2 + (poZ pw la st2 (nxZ lat2 nT2) now)) + flZ (avZ av (hv (now / 60 % 24)) (pe2 + (poZ pw la st2 (nxZ lat2 nT2) now))) bd) (bd - flZ (avZ av (hv (now / 60 % 24)) (pe2 + (poZ pw la st2 (nxZ lat2 nT2) now))) bd) (if av + hv (now / 60 % 24) - (pe2 + (poZ pw la st2 (nxZ lat2 nT2) now)) < 0 then sh + 1 else sh) mL mB thr) H := hP
        have hD : va_D A (wM cI cJ cZ q pw co la vo nC par div dee use mrun2 nT2 due2 lat2 wk2 nE2 tk2 ld2 rule (now + 1) st2 asl2 idnx_9 idlx_8 (sp2 + (poZ pw la st2 (nxZ lat2 nT2) now)) 0 (uZ tin st2 ((tin st2) + 1)) slp2 latex_7 srv2 hv (avZ av (hv (now / 60 % 24)) (pe2 + (poZ pw la st2 (nxZ lat2 nT2) now)) + flZ (avZ av (hv (now / 60 % 24)) (pe2 + (poZ pw la st2 (nxZ lat2 nT2) now))) bd) (bd - flZ (avZ av (hv (now / 60 % 24)) (pe2 + (poZ pw la st2 (nxZ lat2 nT2) now))) bd) (if av + hv (now / 60 % 24) - (pe2 + (poZ pw la st2 (nxZ lat2 nT2) now)) < 0 then sh + 1 else sh) mL mB thr) := hD
        subst hQ
        exact zret_v (W1 := fun u9 : Int × Int × Int × Int × (Int → Int) × (Int → Int) × (Int → Int) × Int × (Int → Int) × (Int → Int) × Int × Int × (Int → Int) × Int × Int × Int × Int × Int × Int × (Int → Int) × Int × (Int → Int) => wM cI cJ cZ q pw co la vo nC par div dee use (u9.2.2.2.2.2.2.2.2.2.2.2.2.2.2.2.2.2.2.2.2.2) (u9.2.2.2.1) (u9.2.2.2.2.1) (u9.2.2.2.2.2.1) (u9.2.2.2.2.2.2.1) (u9.2.2.2.2.2.2.2.1) (u9.2.2.2.2.2.2.2.2.1) (u9.2.2.2.2.2.2.2.2.2.1) rule (u9.2.2.1) (u9.1) (u9.2.1) (u9.2.2.2.2.2.2.2.2.2.2.2.2.2.2.2.2.2.2.2.2.1) (u9.2.2.2.2.2.2.2.2.2.2.2.2.2.2.2.2.2.2.2.1) (u9.2.2.2.2.2.2.2.2.2.2.1) (u9.2.2.2.2.2.2.2.2.2.2.2.1) (u9.2.2.2.2.2.2.2.2.2.2.2.2.1) (u9.2.2.2.2.2.2.2.2.2.2.2.2.2.1) (u9.2.2.2.2.2.2.2.2.2.2.2.2.2.2.1) (u9.2.2.2.2.2.2.2.2.2.2.2.2.2.2.2.1) hv (u9.2.2.2.2.2.2.2.2.2.2.2.2.2.2.2.2.1) (u9.2.2.2.2.2.2.2.2.2.2.2.2.2.2.2.2.2.1) (u9.2.2.2.2.2.2.2.2.2.2.2.2.2.2.2.2.2.2.1) mL mB thr) (st2, asl2, now + 1, nT2, due2, lat2, wk2, nE2, tk2, ld2, sp2 + (poZ pw la st2 (nxZ lat2 nT2) now), 0, uZ tin st2 ((tin st2) + 1), slp2, latex_7, srv2, avZ av (hv (now / 60 % 24)) (pe2 + (poZ pw la st2 (nxZ lat2 nT2) now)) + flZ (avZ av (hv (now / 60 % 24)) (pe2 + (poZ pw la st2 (nxZ lat2 nT2) now))) bd, bd - flZ (avZ av (hv (now / 60 % 24)) (pe2 + (poZ pw la st2 (nxZ lat2 nT2) now))) bd, if av + hv (now / 60 % 24) - (pe2 + (poZ pw la st2 (nxZ lat2 nT2) now)) < 0 then sh + 1 else sh, idlx_8, idnx_9, mrun2) hx hb hr hP hD hS hlocks dX8_playsOne_98 (by refine ⟨?_, hmr2⟩; unfold tkB tkC; rw [← hw1]; dsimp only; rw [← hg1]; rfl)
  refine lv_aload_n hx hb dX8_playsOne_4 rfl (lv_at hl 0 rfl) ?_
  refine va_get (D := (dC, dI)) (ci := 8) (v := .int (iI stx_4)) (C := RX8) (T := TX8) (N := 36) hx hb hts hinX8 hown hK.1 hP 0 rfl rfl 19 (by decide) (hts _ (List.mem_of_getElem? (i := 1) rfl)) (fun _ h9 => h9) rfl dX8_playsOne_5 ?_
  refine zi_fne (tgt := 19) hx hb (by omega) dX8_playsOne_8 (by decide) (fun c_34 => ?_) (fun c_34 => ?_)
  · skip
    exact L19 stx_4 asl nT due lat wk nE tk ld slp spx_5 pex_6 srv mrun (by first | exact hg9 | (unfold sgF; rw [if_neg (by omega)]; done)) (by first | exact hmr9 | exact hmrun) H locs hP hD hS ls (lv_sub hl [0] rfl)
  · skip
    refine lv_aload_n hx hb dX8_playsOne_11 rfl (lv_at hl 0 rfl) ?_
    have h91 := te_r (t := now) (k := nE) hed hew hnE
    have h92 := td_r (t := now) (k := nT) htd htl htw hnT
    refine zc_v (va_runV (As := []) (rest := []) ⟨hx, hb, hml, hown, hts⟩ (kX8_servesAll l dC dI cI cJ cZ q pw co la vo nC par div dee use mrun nT due lat wk nE tk ld rule now stx_4 asl idnx_9 idlx_8 spx_5 pex_6 tin slp latex_7 srv hv av bd sh mL mB thr (by first | assumption | omega | exact b2i_01 _) (by first | assumption | omega | exact b2i_01 _) (by first | assumption | omega | exact b2i_01 _) (by first | assumption | omega | exact b2i_01 _) (by first | assumption | omega | exact b2i_01 _) (by first | assumption | omega | exact b2i_01 _) (by first | assumption | omega | exact b2i_01 _) (by first | assumption | omega | exact b2i_01 _) (by first | assumption | omega | exact b2i_01 _) (by first | assumption | omega | exact b2i_01 _) H.size) (cwV 0 hts gX8_playsOne_X8_servesAll rfl rfl rfl (by decide +kernel) ⟨Nat.le_of_ble_eq_true rfl, Nat.le_of_ble_eq_true rfl⟩) (zpV hK hP hD [0, 1, 2, 3, 4, 5, 6, 7, 8, 9, 10, 11, 12, 13, 14, 15, 16, 17, 18, 19] rfl rfl 0 rfl rfl) rfl rfl hl.1 rfl (lv_room (Nat.le_of_ble_eq_true rfl)) dX8_playsOne_12 ⟨Nat.le_of_ble_eq_true rfl, Nat.le_of_ble_eq_true rfl⟩) hP hD hS hA [0, 1, 2, 3, 4, 5, 6, 7, 8, 9, 10, 11, 12, 13, 14, 15, 16, 17, 18, 19] [] rfl rfl rfl (by decide) (fun u_36 H locs r_35 hP hD hS => ?_)
    have hP : va_P (dC, dI) vwCl (wM cI cJ cZ q pw co la vo nC par div dee use mrun ((tdZ now due lat wk nT).2.1) ((tdZ now due lat wk nT).2.2.1) ((tdZ now due lat wk nT).2.2.2.1) ((tdZ now due lat wk nT).2.2.2.2) ((teZ now tk ld nE).2.1) ((teZ now tk ld nE).2.2.1) ((teZ now tk ld nE).2.2.2) rule now stx_4 asl idnx_9 idlx_8 (spx_5 + ((teZ now tk ld nE).1 + (tdZ now due lat wk nT).1) * pw 0) (pex_6 + ((teZ now tk ld nE).1 + (tdZ now due lat wk nT).1) * pw 0) tin slp latex_7 (srv + ((teZ now tk ld nE).1 + (tdZ now due lat wk nT).1)) hv av bd sh mL mB thr) H := hP
    have hD : va_D A (wM cI cJ cZ q pw co la vo nC par div dee use mrun ((tdZ now due lat wk nT).2.1) ((tdZ now due lat wk nT).2.2.1) ((tdZ now due lat wk nT).2.2.2.1) ((tdZ now due lat wk nT).2.2.2.2) ((teZ now tk ld nE).2.1) ((teZ now tk ld nE).2.2.1) ((teZ now tk ld nE).2.2.2) rule now stx_4 asl idnx_9 idlx_8 (spx_5 + ((teZ now tk ld nE).1 + (tdZ now due lat wk nT).1) * pw 0) (pex_6 + ((teZ now tk ld nE).1 + (tdZ now due lat wk nT).1) * pw 0) tin slp latex_7 (srv + ((teZ now tk ld nE).1 + (tdZ now due lat wk nT).1)) hv av bd sh mL mB thr) := hD
    refine lv_aload_n hx hb dX8_playsOne_15 rfl (lv_at hl 0 rfl) ?_
    have hst0 : stx_4 = 0 := by assumption
    refine zc_v (va_runV (As := []) (rest := []) ⟨hx, hb, hml, hown, hts⟩ (kX8_governs l dC dI cI cJ cZ q pw co la vo nC par div dee use mrun ((tdZ now due lat wk nT).2.1) ((tdZ now due lat wk nT).2.2.1) ((tdZ now due lat wk nT).2.2.2.1) ((tdZ now due lat wk nT).2.2.2.2) ((teZ now tk ld nE).2.1) ((teZ now tk ld nE).2.2.1) ((teZ now tk ld nE).2.2.2) rule now stx_4 asl idnx_9 idlx_8 (spx_5 + ((teZ now tk ld nE).1 + (tdZ now due lat wk nT).1) * pw 0) (pex_6 + ((teZ now tk ld nE).1 + (tdZ now due lat wk nT).1) * pw 0) tin slp latex_7 (srv + ((teZ now tk ld nE).1 + (tdZ now due lat wk nT).1)) hv av bd sh mL mB thr (by first | assumption | omega | exact b2i_01 _) (by first | assumption | omega | exact b2i_01 _) (by first | assumption | omega | exact b2i_01 _) (by first | assumption | omega | exact b2i_01 _) (by first | assumption | omega | exact b2i_01 _) (by first | assumption | omega | exact b2i_01 _) (by first | assumption | omega | exact b2i_01 _) (by first | assumption | omega | exact b2i_01 _) (by first | assumption | omega | exact b2i_01 _) (by first | assumption | omega | exact b2i_01 _) (by first | assumption | omega | exact b2i_01 _) (by first | assumption | omega | exact b2i_01 _) (by omega) (by exact h92.2.2.1) (by exact h92.2.2.2.1) (by exact h92.2.2.2.2) (by first | assumption | omega | exact b2i_01 _) (by first | assumption | omega | exact b2i_01 _) H.size) (cwV 0 hts gX8_playsOne_X8_governs rfl rfl rfl (by decide +kernel) ⟨Nat.le_of_ble_eq_true rfl, Nat.le_of_ble_eq_true rfl⟩) (zpV hK hP hD [0, 1, 2, 3, 4, 5, 6, 7, 8, 9, 10, 11, 12, 13, 14, 15, 16, 17, 18, 19] rfl rfl 0 rfl rfl) rfl rfl hl.1 rfl (lv_room (Nat.le_of_ble_eq_true rfl)) dX8_playsOne_16 ⟨Nat.le_of_ble_eq_true rfl, Nat.le_of_ble_eq_true rfl⟩) hP hD hS hA [0, 1, 2, 3, 4, 5, 6, 7, 8, 9, 10, 11, 12, 13, 14, 15, 16, 17, 18, 19] [] rfl rfl rfl (by decide) (fun u_39 H locs r_38 hP hD hS => ?_)
    obtain ⟨stx_41, aslx_42, slpx_43, spx_44, pex_45⟩ := u_39
    have r_38 : (stx_41, aslx_42, slpx_43, spx_44, pex_45) = faF co (chZ pw co la rule (dzM vo par dee use nC) (nxZ ((tdZ now due lat wk nT).2.2.2.1) ((tdZ now due lat wk nT).2.1) - now) (meM idlx_8 idnx_9)) now stx_4 asl slp (spx_5 + ((teZ now tk ld nE).1 + (tdZ now due lat wk nT).1) * pw 0) (pex_6 + ((teZ now tk ld nE).1 + (tdZ now due lat wk nT).1) * pw 0) := r_38
    have hP : va_P (dC, dI) vwCl (wM cI cJ cZ q pw co la vo nC par div dee use (rnZ par (nC - 1) (r0Z use 8 mrun)) ((tdZ now due lat wk nT).2.1) ((tdZ now due lat wk nT).2.2.1) ((tdZ now due lat wk nT).2.2.2.1) ((tdZ now due lat wk nT).2.2.2.2) ((teZ now tk ld nE).2.1) ((teZ now tk ld nE).2.2.1) ((teZ now tk ld nE).2.2.2) rule now stx_41 aslx_42 idnx_9 idlx_8 spx_44 pex_45 tin slpx_43 latex_7 (srv + ((teZ now tk ld nE).1 + (tdZ now due lat wk nT).1)) hv av bd sh mL mB thr) H := hP
    have hD : va_D A (wM cI cJ cZ q pw co la vo nC par div dee use (rnZ par (nC - 1) (r0Z use 8 mrun)) ((tdZ now due lat wk nT).2.1) ((tdZ now due lat wk nT).2.2.1) ((tdZ now due lat wk nT).2.2.2.1) ((tdZ now due lat wk nT).2.2.2.2) ((teZ now tk ld nE).2.1) ((teZ now tk ld nE).2.2.1) ((teZ now tk ld nE).2.2.2) rule now stx_41 aslx_42 idnx_9 idlx_8 spx_44 pex_45 tin slpx_43 latex_7 (srv + ((teZ now tk ld nE).1 + (tdZ now due lat wk nT).1)) hv av bd sh mL mB thr) := hD
    have hg9 := sg_y (srv := srv) hst0 r_38
    have hmr9 : tfZ (rnZ par (nC - 1) (r0Z use 8 mrun)) := rn_t (r0_t hmrun)
    exact L19 stx_41 aslx_42 ((tdZ now due lat wk nT).2.1) ((tdZ now due lat wk nT).2.2.1) ((tdZ now due lat wk nT).2.2.2.1) ((tdZ now due lat wk nT).2.2.2.2) ((teZ now tk ld nE).2.1) ((teZ now tk ld nE).2.2.1) ((teZ now tk ld nE).2.2.2) slpx_43 spx_44 pex_45 (srv + ((teZ now tk ld nE).1 + (tdZ now due lat wk nT).1)) (rnZ par (nC - 1) (r0Z use 8 mrun)) (by first | exact hg9 | (unfold sgF; rw [if_neg (by omega)]; done)) (by first | exact hmr9 | exact hmrun) H locs hP hD hS ls (lv_sub hl [0] rfl)
