def rmX7_nextWakeup : Room := { frames := 1, cells := 0, slots := 0, locals := 25 }
set_option maxRecDepth 100000 in
set_option maxHeartbeats 4000000 in
theorem kX7_nextWakeup (l : Launch) (dC : Nat → ClassId) (dI : Nat → Nat → Nat) (cI cJ cZ : ClassId) (q : Nat → Nat)  (pw : Int → Int) (co : Int → Int) (la : Int → Int) (vo : Int → Int) (cpar : Int → Int) (fr : Int → Int) (cdee : Int → Int) (use : Int → Int) (run : Int → Int) (nC : Int) (tdue : Int → Int) (tlat : Int → Int) (twk : Int → Int) (nT : Int) (edue : Int → Int) (elat : Int → Int) (ewk : Int → Int) (nE : Int) (len : Int → Int) (cnt : Int) (tin : Int → Int) (sp : Int) (pe : Int) (slp : Int) (late : Int) (srv : Int) (hv : Int → Int) (av : Int) (bd : Int) (sh : Int) (sc : Int → Int) (lt : Int → Int) (rule : Int) (now : Int) (st : Int) (asl : Int) (idl : Int → Int) (idn : Int) (par : Int → Int) (div : Int → Int) (dee : Int → Int) (hnT : 0 ≤ nT ∧ nT ≤ 12) (htd : rgZ tdue 12 1000000) (htl : rgZ tlat 12 1000000) (htw : rgZ twk 12 50) : zPi l yX7_nextWakeup wsX7_nextWakeup rmX7_nextWakeup (dC, dI) (zT cI cJ cZ) (wP cI cJ cZ q pw co la vo cpar fr cdee use run nC tdue tlat twk nT edue elat ewk nE len cnt tin sp pe slp late srv hv av bd sh sc lt rule now st asl idl idn par div dee) [.ref (q 0)] (llZ tdue tlat (-1) 1000000000 nT) := by
  refine zent_pi (cc := cX7_nextWakeup) (maxL := 1) (ret := (some .int)) (by decide +kernel) rfl (Nat.le_of_ble_eq_true rfl) ?_
  intro p e s m below meth c ls hE hP hK hl
  obtain ⟨hx, hb, hr, hml, hown, hts, hlocks, hmn⟩ := hE
  have hinX7 : ∀ w ∈ u_ws RX7 TX7 13, w ∈ wsX7_nextWakeup := by decide +kernel
  have hinX3 : ∀ w ∈ u_ws RX3 TX3 4, w ∈ wsX7_nextWakeup := by decide +kernel
  have hl : lv_has ls 1 [(0, .ref (q 0))] := hl
  refine z_gen (fun Q hQ => ?_)
  refine lv_aload_n hx hb dX7_nextWakeup_0 rfl (lv_at hl 0 rfl) ?_
  refine va_get (D := (dC, dI)) (ci := 7) (v := .ref (q 12)) (C := RX7) (T := TX7) (N := 13) hx hb hts hinX7 hown hK.1 hP 0 rfl rfl 3 (by decide) (hts _ (List.mem_of_getElem? (i := 1) rfl)) (fun _ h9 => h9) rfl dX7_nextWakeup_1 ?_
  refine lv_iconst (v := iI (-1)) hx hb dX7_nextWakeup_4 rfl ?_
  refine lv_ldc (v := iI 1000000000) hx hb hown (hts _ (List.mem_of_getElem? (i := 2) rfl)) dX7_nextWakeup_5 ?_
  refine zc_pi (va_runV (As := [.int (iI (-1)), .int (iI 1000000000)]) (rest := []) ⟨hx, hb, hml, hown, hts⟩ (kX3_leastLatest l dC dI cI cJ cZ (q 12) (q 13) (q 14) (q 15) tdue tlat twk nT (-1) 1000000000 (by first | assumption | omega) (by first | assumption | omega) (by first | assumption | omega) (by first | assumption | omega) (by first | assumption | omega) (by first | assumption | omega)) (cwV 2 hts gX7_nextWakeup_X3_leastLatest rfl rfl rfl (by decide +kernel) ⟨Nat.le_of_ble_eq_true rfl, Nat.le_of_ble_eq_true rfl⟩) (zqV hK hP [12, 13, 14, 15] rfl 12 rfl rfl) rfl rfl hl.1 rfl (lv_room (Nat.le_of_ble_eq_true rfl)) dX7_nextWakeup_7 ⟨Nat.le_of_ble_eq_true rfl, Nat.le_of_ble_eq_true rfl⟩) ?_
  subst hQ
  exact zret_pi hx hb hr hlocks dX7_nextWakeup_10 (by rfl)
def rmX7_ticksToWakeup : Room := { frames := 2, cells := 0, slots := 0, locals := 45 }
set_option maxRecDepth 100000 in
set_option maxHeartbeats 4000000 in
theorem kX7_ticksToWakeup (l : Launch) (dC : Nat → ClassId) (dI : Nat → Nat → Nat) (cI cJ cZ : ClassId) (q : Nat → Nat)  (pw : Int → Int) (co : Int → Int) (la : Int → Int) (vo : Int → Int) (cpar : Int → Int) (fr : Int → Int) (cdee : Int → Int) (use : Int → Int) (run : Int → Int) (nC : Int) (tdue : Int → Int) (tlat : Int → Int) (twk : Int → Int) (nT : Int) (edue : Int → Int) (elat : Int → Int) (ewk : Int → Int) (nE : Int) (len : Int → Int) (cnt : Int) (tin : Int → Int) (sp : Int) (pe : Int) (slp : Int) (late : Int) (srv : Int) (hv : Int → Int) (av : Int) (bd : Int) (sh : Int) (sc : Int → Int) (lt : Int → Int) (rule : Int) (now : Int) (st : Int) (asl : Int) (idl : Int → Int) (idn : Int) (par : Int → Int) (div : Int → Int) (dee : Int → Int) (hnT : 0 ≤ nT ∧ nT ≤ 12) (htd : rgZ tdue 12 1000000) (htl : rgZ tlat 12 1000000) (htw : rgZ twk 12 50) (hnow : 0 ≤ now ∧ now ≤ 200000) : zPi l yX7_ticksToWakeup wsX7_ticksToWakeup rmX7_ticksToWakeup (dC, dI) (zT cI cJ cZ) (wP cI cJ cZ q pw co la vo cpar fr cdee use run nC tdue tlat twk nT edue elat ewk nE len cnt tin sp pe slp late srv hv av bd sh sc lt rule now st asl idl idn par div dee) [.ref (q 0)] (twZ (nxZ tlat nT) now) := by
  refine zent_pi (cc := cX7_ticksToWakeup) (maxL := 2) (ret := (some .int)) (by decide +kernel) rfl (Nat.le_of_ble_eq_true rfl) ?_
  intro p e s m below meth c ls hE hP hK hl
  obtain ⟨hx, hb, hr, hml, hown, hts, hlocks, hmn⟩ := hE
  have hinX7 : ∀ w ∈ u_ws RX7 TX7 13, w ∈ wsX7_ticksToWakeup := by decide +kernel
  have hinX3 : ∀ w ∈ u_ws RX3 TX3 4, w ∈ wsX7_ticksToWakeup := by decide +kernel
  have hl : lv_has ls 2 [(0, .ref (q 0))] := hl
  refine z_gen (fun Q hQ => ?_)
  refine lv_aload_n hx hb dX7_ticksToWakeup_0 rfl (lv_at hl 0 rfl) ?_
  refine zc_pi (va_runV (As := []) (rest := []) ⟨hx, hb, hml, hown, hts⟩ (kX7_nextWakeup l dC dI cI cJ cZ q pw co la vo cpar fr cdee use run nC tdue tlat twk nT edue elat ewk nE len cnt tin sp pe slp late srv hv av bd sh sc lt rule now st asl idl idn par div dee (by first | assumption | omega) (by first | assumption | omega) (by first | assumption | omega) (by first | assumption | omega)) (cwV 0 hts gX7_ticksToWakeup_X7_nextWakeup rfl rfl rfl (by decide +kernel) ⟨Nat.le_of_ble_eq_true rfl, Nat.le_of_ble_eq_true rfl⟩) (zqV hK hP [0, 1, 2, 3, 4, 5, 6, 7, 8, 9, 10, 11, 12, 13, 14, 15, 16, 17, 18, 19, 20, 21, 22, 23, 24, 25, 26, 27, 28] rfl 0 rfl rfl) rfl rfl hl.1 rfl (lv_room (Nat.le_of_ble_eq_true rfl)) dX7_ticksToWakeup_1 ⟨Nat.le_of_ble_eq_true rfl, Nat.le_of_ble_eq_true rfl⟩) ?_
  have hn9 := nx_ll htd htl hnT
  refine lv_istore_n (lv' := [(1, .int (iI (llZ tdue tlat (-1) 1000000000 nT))), (0, .ref (q 0))]) hx hb dX7_ticksToWakeup_4 rfl hl (by decide) rfl (fun ls hl => ?_)
  refine lv_iload_n hx hb dX7_ticksToWakeup_5 rfl (lv_at hl 0 rfl) ?_
  refine lv_iconst (v := iI (-1)) hx hb dX7_ticksToWakeup_6 rfl ?_
  refine zi_cne (tgt := 15) hx hb (by omega) (by decide) dX7_ticksToWakeup_7 (by decide) (fun c_1 => ?_) (fun c_1 => ?_)
  · skip
    refine lv_iload_n hx hb dX7_ticksToWakeup_15 rfl (lv_at hl 0 rfl) ?_
    refine lv_aload_n hx hb dX7_ticksToWakeup_16 rfl (lv_at hl 1 rfl) ?_
    refine va_get (D := (dC, dI)) (ci := 7) (v := .int (iI now)) (C := RX7) (T := TX7) (N := 13) hx hb hts hinX7 hown hK.1 hP 0 rfl rfl 10 (by decide) (hts _ (List.mem_of_getElem? (i := 2) rfl)) (fun _ h9 => h9) rfl dX7_ticksToWakeup_17 ?_
    refine zi_sub hx hb dX7_ticksToWakeup_20 ?_
    subst hQ
    exact zret_pi hx hb hr hlocks dX7_ticksToWakeup_21 (by unfold twZ; first | rw [if_pos (by omega)] | (rw [if_neg (by omega)]; omega))
  · skip
    refine lv_ldc (v := iI 1000000000) hx hb hown (hts _ (List.mem_of_getElem? (i := 1) rfl)) dX7_ticksToWakeup_10 ?_
    refine lv_goto (tgt := 21) hx hb dX7_ticksToWakeup_12 (by decide) ?_
    subst hQ
    exact zret_pi hx hb hr hlocks dX7_ticksToWakeup_21 (by unfold twZ; first | rw [if_pos (by omega)] | (rw [if_neg (by omega)]; omega))
def rmX7_endIdleTime : Room := { frames := 2, cells := 0, slots := 0, locals := 43 }
set_option maxRecDepth 100000 in
set_option maxHeartbeats 4000000 in
theorem kX7_endIdleTime (l : Launch) (dC : Nat → ClassId) (dI : Nat → Nat → Nat) (cI cJ cZ : ClassId) (q : Nat → Nat)  (pw : Int → Int) (co : Int → Int) (la : Int → Int) (vo : Int → Int) (cpar : Int → Int) (fr : Int → Int) (cdee : Int → Int) (use : Int → Int) (run : Int → Int) (nC : Int) (tdue : Int → Int) (tlat : Int → Int) (twk : Int → Int) (nT : Int) (edue : Int → Int) (elat : Int → Int) (ewk : Int → Int) (nE : Int) (len : Int → Int) (cnt : Int) (tin : Int → Int) (sp : Int) (pe : Int) (slp : Int) (late : Int) (srv : Int) (hv : Int → Int) (av : Int) (bd : Int) (sh : Int) (sc : Int → Int) (lt : Int → Int) (rule : Int) (now : Int) (st : Int) (asl : Int) (idl : Int → Int) (idn : Int) (par : Int → Int) (div : Int → Int) (dee : Int → Int) (hcnt : 0 ≤ cnt ∧ cnt ≤ 4) : zMv l yX7_endIdleTime wsX7_endIdleTime rmX7_endIdleTime (dC, dI) (zT cI cJ cZ) (wP cI cJ cZ q pw co la vo cpar fr cdee use run nC tdue tlat twk nT edue elat ewk nE len cnt tin sp pe slp late srv hv av bd sh sc lt rule now st asl idl idn par div dee) [.ref (q 0)] (fun (_ : Unit) => True) (fun _ : Unit => wP cI cJ cZ q pw co la vo cpar fr cdee use run nC tdue tlat twk nT edue elat ewk nE (reZ len (now - asl)) (min (cnt + 1) 4) tin sp pe slp late srv hv av bd sh sc lt rule now 0 asl (uZ idl (idn % 4) (now - asl)) (idn + 1) par div dee) 0 0 := by
  refine zent_v (cc := cX7_endIdleTime) (maxL := 1) (ret := none) (by decide +kernel) rfl (Nat.le_of_ble_eq_true rfl) ?_
  intro p e s m below meth c A ls hE hP hK hA hD hS hl
  obtain ⟨hx, hb, hr, hml, hown, hts, hlocks, hmn⟩ := hE
  have hinX7 : ∀ w ∈ u_ws RX7 TX7 13, w ∈ wsX7_endIdleTime := by decide +kernel
  have hinX2 : ∀ w ∈ u_ws RX2 TX2 2, w ∈ wsX7_endIdleTime := by decide +kernel
  have hl : lv_has ls 1 [(0, .ref (q 0))] := hl
  refine z_gen (fun Q hQ => ?_)
  refine lv_aload_n hx hb dX7_endIdleTime_0 rfl (lv_at hl 0 rfl) ?_
  refine va_get (D := (dC, dI)) (ci := 7) (v := .ref (q 20)) (C := RX7) (T := TX7) (N := 13) hx hb hts hinX7 hown hK.1 hP 0 rfl rfl 5 (by decide) (hts _ (List.mem_of_getElem? (i := 1) rfl)) (fun _ h9 => h9) rfl dX7_endIdleTime_1 ?_
  refine lv_aload_n hx hb dX7_endIdleTime_4 rfl (lv_at hl 0 rfl) ?_
  refine va_get (D := (dC, dI)) (ci := 7) (v := .int (iI now)) (C := RX7) (T := TX7) (N := 13) hx hb hts hinX7 hown hK.1 hP 0 rfl rfl 10 (by decide) (hts _ (List.mem_of_getElem? (i := 2) rfl)) (fun _ h9 => h9) rfl dX7_endIdleTime_5 ?_
  refine lv_aload_n hx hb dX7_endIdleTime_8 rfl (lv_at hl 0 rfl) ?_
  refine va_get (D := (dC, dI)) (ci := 7) (v := .int (iI asl)) (C := RX7) (T := TX7) (N := 13) hx hb hts hinX7 hown hK.1 hP 0 rfl rfl 12 (by decide) (hts _ (List.mem_of_getElem? (i := 3) rfl)) (fun _ h9 => h9) rfl dX7_endIdleTime_9 ?_
  refine zi_sub hx hb dX7_endIdleTime_12 ?_
  refine zc_v (va_runV (As := [.int (iI (now - asl))]) (rest := []) ⟨hx, hb, hml, hown, hts⟩ (kX2_remember l dC dI cI cJ cZ (q 20) (q 21) len cnt (now - asl) (by first | assumption | omega) s.heap.size) (cwV 1 hts gX7_endIdleTime_X2_remember rfl rfl rfl (by decide +kernel) ⟨Nat.le_of_ble_eq_true rfl, Nat.le_of_ble_eq_true rfl⟩) (zpV hK hP hD [20, 21] rfl rfl 20 rfl rfl) rfl rfl hl.1 rfl (lv_room (Nat.le_of_ble_eq_true rfl)) dX7_endIdleTime_13 ⟨Nat.le_of_ble_eq_true rfl, Nat.le_of_ble_eq_true rfl⟩) hP hD hS hA [20, 21] [0, 1, 2, 3, 4, 5, 6, 7, 8, 9, 10, 11, 12, 13, 14, 15, 16, 17, 18, 19, 22, 23, 24, 25, 26, 27, 28] rfl rfl rfl (by decide) (fun u_2 H locs r_1 hP hD hS => ?_)
  have hP : va_P (dC, dI) vwCl (wP cI cJ cZ q pw co la vo cpar fr cdee use run nC tdue tlat twk nT edue elat ewk nE (reZ len (now - asl)) (min (cnt + 1) 4) tin sp pe slp late srv hv av bd sh sc lt rule now st asl idl idn par div dee) H := hP.sub [0, 1, 2, 3, 4, 5, 6, 7, 8, 9, 10, 11, 12, 13, 14, 15, 16, 17, 18, 19, 27, 28, 20, 21, 22, 23, 24, 25, 26] (z_fm rfl)
  have hD : va_D A (wP cI cJ cZ q pw co la vo cpar fr cdee use run nC tdue tlat twk nT edue elat ewk nE (reZ len (now - asl)) (min (cnt + 1) 4) tin sp pe slp late srv hv av bd sh sc lt rule now st asl idl idn par div dee) := hD.sub [0, 1, 2, 3, 4, 5, 6, 7, 8, 9, 10, 11, 12, 13, 14, 15, 16, 17, 18, 19, 27, 28, 20, 21, 22, 23, 24, 25, 26] (by decide) rfl
  refine lv_aload_n hx hb dX7_endIdleTime_16 rfl (lv_at hl 0 rfl) ?_
  refine lv_iconst (v := iI 0) hx hb dX7_endIdleTime_17 rfl ?_
  refine va_put (D := (dC, dI)) (ci := 7) (v := .int (iI 0)) (ty := .int) (C := RX7) (T := TX7) (N := 13) hx hb hts hinX7 tyX7 tyX7_ok nmX7 hown hK.1 hP hD hS 0 rfl rfl 11 (by decide) (hts _ (List.mem_of_getElem? (i := 4) rfl)) (fun _ h9 => h9) rfl (by decide +kernel) rfl rfl (Nat.le_of_ble_eq_true rfl) dX7_endIdleTime_18 (fun H locs hP hD hS => ?_)
  have hP : va_P (dC, dI) vwCl (wP cI cJ cZ q pw co la vo cpar fr cdee use run nC tdue tlat twk nT edue elat ewk nE (reZ len (now - asl)) (min (cnt + 1) 4) tin sp pe slp late srv hv av bd sh sc lt rule now 0 asl idl idn par div dee) H := hP
  have hD : va_D A (wP cI cJ cZ q pw co la vo cpar fr cdee use run nC tdue tlat twk nT edue elat ewk nE (reZ len (now - asl)) (min (cnt + 1) 4) tin sp pe slp late srv hv av bd sh sc lt rule now 0 asl idl idn par div dee) := hD
  subst hQ
  have hP : va_P (dC, dI) vwCl (wP cI cJ cZ q pw co la vo cpar fr cdee use run nC tdue tlat twk nT edue elat ewk nE (reZ len (now - asl)) (min (cnt + 1) 4) tin sp pe slp late srv hv av bd sh sc lt rule now 0 asl (uZ idl (idn % 4) (now - asl)) (idn + 1) par div dee) H := hP
  have hD : va_D A (wP cI cJ cZ q pw co la vo cpar fr cdee use run nC tdue tlat twk nT edue elat ewk nE (reZ len (now - asl)) (min (cnt + 1) 4) tin sp pe slp late srv hv av bd sh sc lt rule now 0 asl (uZ idl (idn % 4) (now - asl)) (idn + 1) par div dee) := hD
  exact zret_v (W1 := fun _ : Unit => wP cI cJ cZ q pw co la vo cpar fr cdee use run nC tdue tlat twk nT edue elat ewk nE (reZ len (now - asl)) (min (cnt + 1) 4) tin sp pe slp late srv hv av bd sh sc lt rule now 0 asl (uZ idl (idn % 4) (now - asl)) (idn + 1) par div dee) () hx hb hr hP hD hS hlocks dX7_endIdleTime_21 (by trivial)
def rmX7_wakeForCall : Room := { frames := 3, cells := 0, slots := 0, locals := 63 }
set_option maxRecDepth 100000 in
set_option maxHeartbeats 4000000 in
theorem kX7_wakeForCall (l : Launch) (dC : Nat → ClassId) (dI : Nat → Nat → Nat) (cI cJ cZ : ClassId) (q : Nat → Nat)  (pw : Int → Int) (co : Int → Int) (la : Int → Int) (vo : Int → Int) (cpar : Int → Int) (fr : Int → Int) (cdee : Int → Int) (use : Int → Int) (run : Int → Int) (nC : Int) (tdue : Int → Int) (tlat : Int → Int) (twk : Int → Int) (nT : Int) (edue : Int → Int) (elat : Int → Int) (ewk : Int → Int) (nE : Int) (len : Int → Int) (cnt : Int) (tin : Int → Int) (sp : Int) (pe : Int) (slp : Int) (late : Int) (srv : Int) (hv : Int → Int) (av : Int) (bd : Int) (sh : Int) (sc : Int → Int) (lt : Int → Int) (rule : Int) (now : Int) (st : Int) (asl : Int) (idl : Int → Int) (idn : Int) (par : Int → Int) (div : Int → Int) (dee : Int → Int) (hst : 0 ≤ st ∧ st ≤ 3) (hpw : rgZ pw 4 1000) (hco : rgZ co 4 10000) (hla : rgZ la 4 100) (hnow : 0 ≤ now ∧ now ≤ 200000) (hasl : 0 ≤ asl ∧ asl ≤ now) (hid : idR len cnt idl idn) : zMv l yX7_wakeForCall wsX7_wakeForCall rmX7_wakeForCall (dC, dI) (zT cI cJ cZ) (wP cI cJ cZ q pw co la vo cpar fr cdee use run nC tdue tlat twk nT edue elat ewk nE len cnt tin sp pe slp late srv hv av bd sh sc lt rule now st asl idl idn par div dee) [.ref (q 0)] (fun (u9 : Int × Int × Int × (Int → Int) × Int × (Int → Int) × Int) => ((u9.1), (u9.2.1), (u9.2.2.1), (u9.2.2.2.1), (u9.2.2.2.2.1)) = scF pw la st asl now sp pe idl idn ∧ idR (u9.2.2.2.2.2.1) (u9.2.2.2.2.2.2) (u9.2.2.2.1) (u9.2.2.2.2.1)) (fun u9 : Int × Int × Int × (Int → Int) × Int × (Int → Int) × Int => wP cI cJ cZ q pw co la vo cpar fr cdee use run nC tdue tlat twk nT edue elat ewk nE (u9.2.2.2.2.2.1) (u9.2.2.2.2.2.2) tin (u9.2.1) (u9.2.2.1) slp late srv hv av bd sh sc lt rule now (u9.1) asl (u9.2.2.2.1) (u9.2.2.2.2.1) par div dee) 0 0 := by
  refine zent_v (cc := cX7_wakeForCall) (maxL := 1) (ret := none) (by decide +kernel) rfl (Nat.le_of_ble_eq_true rfl) ?_
  intro p e s m below meth c A ls hE hP hK hA hD hS hl
  obtain ⟨hx, hb, hr, hml, hown, hts, hlocks, hmn⟩ := hE
  have hinX7 : ∀ w ∈ u_ws RX7 TX7 13, w ∈ wsX7_wakeForCall := by decide +kernel
  have hinX6 : ∀ w ∈ u_ws RX6 TX6 3, w ∈ wsX7_wakeForCall := by decide +kernel
  have hinX4 : ∀ w ∈ u_ws RX4 TX4 6, w ∈ wsX7_wakeForCall := by decide +kernel
  have hinX2 : ∀ w ∈ u_ws RX2 TX2 2, w ∈ wsX7_wakeForCall := by decide +kernel
  have hl : lv_has ls 1 [(0, .ref (q 0))] := hl
  refine z_gen (fun Q hQ => ?_)
  have hcnt : 0 ≤ cnt ∧ cnt ≤ 4 := by have := hid.1; have := hid.2.1; omega
  refine lv_aload_n hx hb dX7_wakeForCall_0 rfl (lv_at hl 0 rfl) ?_
  refine va_get (D := (dC, dI)) (ci := 7) (v := .int (iI st)) (C := RX7) (T := TX7) (N := 13) hx hb hts hinX7 hown hK.1 hP 0 rfl rfl 11 (by decide) (hts _ (List.mem_of_getElem? (i := 1) rfl)) (fun _ h9 => h9) rfl dX7_wakeForCall_1 ?_
  refine zi_fne (tgt := 8) hx hb (by omega) dX7_wakeForCall_4 (by decide) (fun c_1 => ?_) (fun c_1 => ?_)
  · skip
    refine lv_aload_n hx hb dX7_wakeForCall_8 rfl (lv_at hl 0 rfl) ?_
    refine va_get (D := (dC, dI)) (ci := 7) (v := .ref (q 22)) (C := RX7) (T := TX7) (N := 13) hx hb hts hinX7 hown hK.1 hP 0 rfl rfl 6 (by decide) (hts _ (List.mem_of_getElem? (i := 2) rfl)) (fun _ h9 => h9) rfl dX7_wakeForCall_9 ?_
    refine lv_aload_n hx hb dX7_wakeForCall_12 rfl (lv_at hl 0 rfl) ?_
    refine va_get (D := (dC, dI)) (ci := 7) (v := .ref (q 1)) (C := RX7) (T := TX7) (N := 13) hx hb hts hinX7 hown hK.1 hP 0 rfl rfl 0 (by decide) (hts _ (List.mem_of_getElem? (i := 3) rfl)) (fun _ h9 => h9) rfl dX7_wakeForCall_13 ?_
    refine lv_aload_n hx hb dX7_wakeForCall_16 rfl (lv_at hl 0 rfl) ?_
    refine va_get (D := (dC, dI)) (ci := 7) (v := .int (iI st)) (C := RX7) (T := TX7) (N := 13) hx hb hts hinX7 hown hK.1 hP 0 rfl rfl 11 (by decide) (hts _ (List.mem_of_getElem? (i := 1) rfl)) (fun _ h9 => h9) rfl dX7_wakeForCall_17 ?_
    refine zc_pi (va_runV (As := [.int (iI st)]) (rest := [.ref (q 22)]) ⟨hx, hb, hml, hown, hts⟩ (kX6_wakingCost l dC dI cI cJ cZ (q 1) (q 2) (q 3) (q 4) pw co la st (by first | assumption | omega)) (cwV 1 hts gX7_wakeForCall_X6_wakingCost rfl rfl rfl (by decide +kernel) ⟨Nat.le_of_ble_eq_true rfl, Nat.le_of_ble_eq_true rfl⟩) (zqV hK hP [1, 2, 3, 4] rfl 1 rfl rfl) rfl rfl hl.1 rfl (lv_room (Nat.le_of_ble_eq_true rfl)) dX7_wakeForCall_20 ⟨Nat.le_of_ble_eq_true rfl, Nat.le_of_ble_eq_true rfl⟩) ?_
    have e_2 := mul_r (hpw 0 (by omega) (by omega)) (hla st (by omega) (by omega))
    refine zi_l hx hb (by omega) dX7_wakeForCall_23 ?_
    refine zc_v (va_runV (As := [.long (lI (pw 0 * la st))]) (rest := []) ⟨hx, hb, hml, hown, hts⟩ (kX4_spend l dC dI cI cJ cZ (q 22) (q 23) tin sp pe slp late srv (pw 0 * la st) s.heap.size) (cwV 1 hts gX7_wakeForCall_X4_spend rfl rfl rfl (by decide +kernel) ⟨Nat.le_of_ble_eq_true rfl, Nat.le_of_ble_eq_true rfl⟩) (zpV hK hP hD [22, 23] rfl rfl 22 rfl rfl) rfl rfl hl.1 rfl (lv_room (Nat.le_of_ble_eq_true rfl)) dX7_wakeForCall_24 ⟨Nat.le_of_ble_eq_true rfl, Nat.le_of_ble_eq_true rfl⟩) hP hD hS hA [22, 23] [0, 1, 2, 3, 4, 5, 6, 7, 8, 9, 10, 11, 12, 13, 14, 15, 16, 17, 18, 19, 20, 21, 24, 25, 26, 27, 28] rfl rfl rfl (by decide) (fun u_4 H locs r_3 hP hD hS => ?_)
    have hP : va_P (dC, dI) vwCl (wP cI cJ cZ q pw co la vo cpar fr cdee use run nC tdue tlat twk nT edue elat ewk nE len cnt tin (sp + (pw 0 * la st)) (pe + (pw 0 * la st)) slp late srv hv av bd sh sc lt rule now st asl idl idn par div dee) H := hP.sub [0, 1, 2, 3, 4, 5, 6, 7, 8, 9, 10, 11, 12, 13, 14, 15, 16, 17, 18, 19, 20, 21, 27, 28, 22, 23, 24, 25, 26] (z_fm rfl)
    have hD : va_D A (wP cI cJ cZ q pw co la vo cpar fr cdee use run nC tdue tlat twk nT edue elat ewk nE len cnt tin (sp + (pw 0 * la st)) (pe + (pw 0 * la st)) slp late srv hv av bd sh sc lt rule now st asl idl idn par div dee) := hD.sub [0, 1, 2, 3, 4, 5, 6, 7, 8, 9, 10, 11, 12, 13, 14, 15, 16, 17, 18, 19, 20, 21, 27, 28, 22, 23, 24, 25, 26] (by decide) rfl
    refine lv_aload_n hx hb dX7_wakeForCall_27 rfl (lv_at hl 0 rfl) ?_
    refine zc_v (va_runV (As := []) (rest := []) ⟨hx, hb, hml, hown, hts⟩ (kX7_endIdleTime l dC dI cI cJ cZ q pw co la vo cpar fr cdee use run nC tdue tlat twk nT edue elat ewk nE len cnt tin (sp + (pw 0 * la st)) (pe + (pw 0 * la st)) slp late srv hv av bd sh sc lt rule now st asl idl idn par div dee (by first | assumption | omega) H.size) (cwV 0 hts gX7_wakeForCall_X7_endIdleTime rfl rfl rfl (by decide +kernel) ⟨Nat.le_of_ble_eq_true rfl, Nat.le_of_ble_eq_true rfl⟩) (zpV hK hP hD [0, 1, 2, 3, 4, 5, 6, 7, 8, 9, 10, 11, 12, 13, 14, 15, 16, 17, 18, 19, 20, 21, 22, 23, 24, 25, 26, 27, 28] rfl rfl 0 rfl rfl) rfl rfl hl.1 rfl (lv_room (Nat.le_of_ble_eq_true rfl)) dX7_wakeForCall_28 ⟨Nat.le_of_ble_eq_true rfl, Nat.le_of_ble_eq_true rfl⟩) hP hD hS hA [0, 1, 2, 3, 4, 5, 6, 7, 8, 9, 10, 11, 12, 13, 14, 15, 16, 17, 18, 19, 20, 21, 22, 23, 24, 25, 26, 27, 28] [] rfl rfl rfl (by decide) (fun u_7 H locs r_6 hP hD hS => ?_)
    have hP : va_P (dC, dI) vwCl (wP cI cJ cZ q pw co la vo cpar fr cdee use run nC tdue tlat twk nT edue elat ewk nE (reZ len (now - asl)) (min (cnt + 1) 4) tin (sp + (pw 0 * la st)) (pe + (pw 0 * la st)) slp late srv hv av bd sh sc lt rule now 0 asl (uZ idl (idn % 4) (now - asl)) (idn + 1) par div dee) H := hP
    have hD : va_D A (wP cI cJ cZ q pw co la vo cpar fr cdee use run nC tdue tlat twk nT edue elat ewk nE (reZ len (now - asl)) (min (cnt + 1) 4) tin (sp + (pw 0 * la st)) (pe + (pw 0 * la st)) slp late srv hv av bd sh sc lt rule now 0 asl (uZ idl (idn % 4) (now - asl)) (idn + 1) par div dee) := hD
    subst hQ
    have hP : va_P (dC, dI) vwCl (wP cI cJ cZ q pw co la vo cpar fr cdee use run nC tdue tlat twk nT edue elat ewk nE (reZ len (now - asl)) (min (cnt + 1) 4) tin (sp + (pw 0 * la st)) (pe + (pw 0 * la st)) slp late srv hv av bd sh sc lt rule now 0 asl (uZ idl (idn % 4) (now - asl)) (idn + 1) par div dee) H := hP
    have hD : va_D A (wP cI cJ cZ q pw co la vo cpar fr cdee use run nC tdue tlat twk nT edue elat ewk nE (reZ len (now - asl)) (min (cnt + 1) 4) tin (sp + (pw 0 * la st)) (pe + (pw 0 * la st)) slp late srv hv av bd sh sc lt rule now 0 asl (uZ idl (idn % 4) (now - asl)) (idn + 1) par div dee) := hD
    exact zret_v (W1 := fun u9 : Int × Int × Int × (Int → Int) × Int × (Int → Int) × Int => wP cI cJ cZ q pw co la vo cpar fr cdee use run nC tdue tlat twk nT edue elat ewk nE (u9.2.2.2.2.2.1) (u9.2.2.2.2.2.2) tin (u9.2.1) (u9.2.2.1) slp late srv hv av bd sh sc lt rule now (u9.1) asl (u9.2.2.2.1) (u9.2.2.2.2.1) par div dee) (0, sp + (pw 0 * la st), pe + (pw 0 * la st), uZ idl (idn % 4) (now - asl), idn + 1, reZ len (now - asl), min (cnt + 1) 4) hx hb hr hP hD hS hlocks dX7_wakeForCall_31 (by exact ⟨(if_neg (by omega)).symm, idR_s hid (by omega)⟩)
  · skip
    subst hQ
    exact zret_v (W1 := fun u9 : Int × Int × Int × (Int → Int) × Int × (Int → Int) × Int => wP cI cJ cZ q pw co la vo cpar fr cdee use run nC tdue tlat twk nT edue elat ewk nE (u9.2.2.2.2.2.1) (u9.2.2.2.2.2.2) tin (u9.2.1) (u9.2.2.1) slp late srv hv av bd sh sc lt rule now (u9.1) asl (u9.2.2.2.1) (u9.2.2.2.2.1) par div dee) (st, sp, pe, idl, idn, len, cnt) hx hb hr hP hD hS hlocks dX7_wakeForCall_7 (by exact ⟨(if_pos (by omega)).symm, hid⟩)
def rmX7_wakeIfCalledFor : Room := { frames := 3, cells := 0, slots := 0, locals := 66 }
set_option maxRecDepth 100000 in
set_option maxHeartbeats 4000000 in
theorem kX7_wakeIfCalledFor (l : Launch) (dC : Nat → ClassId) (dI : Nat → Nat → Nat) (cI cJ cZ : ClassId) (q : Nat → Nat)  (pw : Int → Int) (co : Int → Int) (la : Int → Int) (vo : Int → Int) (cpar : Int → Int) (fr : Int → Int) (cdee : Int → Int) (use : Int → Int) (run : Int → Int) (nC : Int) (tdue : Int → Int) (tlat : Int → Int) (twk : Int → Int) (nT : Int) (edue : Int → Int) (elat : Int → Int) (ewk : Int → Int) (nE : Int) (len : Int → Int) (cnt : Int) (tin : Int → Int) (sp : Int) (pe : Int) (slp : Int) (late : Int) (srv : Int) (hv : Int → Int) (av : Int) (bd : Int) (sh : Int) (sc : Int → Int) (lt : Int → Int) (rule : Int) (now : Int) (st : Int) (asl : Int) (idl : Int → Int) (idn : Int) (par : Int → Int) (div : Int → Int) (dee : Int → Int) (hst : 0 ≤ st ∧ st ≤ 3) (hpw : rgZ pw 4 1000) (hco : rgZ co 4 10000) (hla : rgZ la 4 100) (hnow : 0 ≤ now ∧ now ≤ 200000) (hasl : 0 ≤ asl ∧ asl ≤ now) (hid : idR len cnt idl idn) (hnT : 0 ≤ nT ∧ nT ≤ 12) (htd : rgZ tdue 12 1000000) (htl : rgZ tlat 12 1000000) (htw : rgZ twk 12 50) (hnE : 0 ≤ nE ∧ nE ≤ 12) (hed : rgZ edue 12 1000000) (hel : rgZ elat 12 1000000) (hew : rgZ ewk 12 50) : zMv l yX7_wakeIfCalledFor wsX7_wakeIfCalledFor rmX7_wakeIfCalledFor (dC, dI) (zT cI cJ cZ) (wP cI cJ cZ q pw co la vo cpar fr cdee use run nC tdue tlat twk nT edue elat ewk nE len cnt tin sp pe slp late srv hv av bd sh sc lt rule now st asl idl idn par div dee) [.ref (q 0)] (fun (u9 : Int × Int × Int × Int × (Int → Int) × Int × (Int → Int) × Int) => ((u9.1), (u9.2.1), (u9.2.2.1), (u9.2.2.2.1), (u9.2.2.2.2.1), (u9.2.2.2.2.2.1)) = wkF pw la (nxZ tlat nT) (adZ edue now nE) st asl now sp pe late idl idn ∧ idR (u9.2.2.2.2.2.2.1) (u9.2.2.2.2.2.2.2) (u9.2.2.2.2.1) (u9.2.2.2.2.2.1)) (fun u9 : Int × Int × Int × Int × (Int → Int) × Int × (Int → Int) × Int => wP cI cJ cZ q pw co la vo cpar fr cdee use run nC tdue tlat twk nT edue elat ewk nE (u9.2.2.2.2.2.2.1) (u9.2.2.2.2.2.2.2) tin (u9.2.1) (u9.2.2.1) slp (u9.2.2.2.1) srv hv av bd sh sc lt rule now (u9.1) asl (u9.2.2.2.2.1) (u9.2.2.2.2.2.1) par div dee) 0 0 := by
  refine zent_v (cc := cX7_wakeIfCalledFor) (maxL := 2) (ret := none) (by decide +kernel) rfl (Nat.le_of_ble_eq_true rfl) ?_
  intro p e s m below meth c A ls hE hP hK hA hD hS hl
  obtain ⟨hx, hb, hr, hml, hown, hts, hlocks, hmn⟩ := hE
  have hinX7 : ∀ w ∈ u_ws RX7 TX7 13, w ∈ wsX7_wakeIfCalledFor := by decide +kernel
  have hinX4 : ∀ w ∈ u_ws RX4 TX4 6, w ∈ wsX7_wakeIfCalledFor := by decide +kernel
  have hinX3 : ∀ w ∈ u_ws RX3 TX3 4, w ∈ wsX7_wakeIfCalledFor := by decide +kernel
  have hinX6 : ∀ w ∈ u_ws RX6 TX6 3, w ∈ wsX7_wakeIfCalledFor := by decide +kernel
  have hinX2 : ∀ w ∈ u_ws RX2 TX2 2, w ∈ wsX7_wakeIfCalledFor := by decide +kernel
  have hl : lv_has ls 2 [(0, .ref (q 0))] := hl
  refine z_gen (fun Q hQ => ?_)
  have hcnt : 0 ≤ cnt ∧ cnt ≤ 4 := by have := hid.1; have := hid.2.1; omega
  have hn9 := nx_r htl hnT
  have ht9 : twZ (nxZ tlat nT) now = 0 ↔ nxZ tlat nT = now := by unfold twZ; split <;> omega
  refine lv_aload_n hx hb dX7_wakeIfCalledFor_0 rfl (lv_at hl 0 rfl) ?_
  refine zc_pi (va_runV (As := []) (rest := []) ⟨hx, hb, hml, hown, hts⟩ (kX7_ticksToWakeup l dC dI cI cJ cZ q pw co la vo cpar fr cdee use run nC tdue tlat twk nT edue elat ewk nE len cnt tin sp pe slp late srv hv av bd sh sc lt rule now st asl idl idn par div dee (by first | assumption | omega) (by first | assumption | omega) (by first | assumption | omega) (by first | assumption | omega) (by first | assumption | omega)) (cwV 0 hts gX7_wakeIfCalledFor_X7_ticksToWakeup rfl rfl rfl (by decide +kernel) ⟨Nat.le_of_ble_eq_true rfl, Nat.le_of_ble_eq_true rfl⟩) (zqV hK hP [0, 1, 2, 3, 4, 5, 6, 7, 8, 9, 10, 11, 12, 13, 14, 15, 16, 17, 18, 19, 20, 21, 22, 23, 24, 25, 26, 27, 28] rfl 0 rfl rfl) rfl rfl hl.1 rfl (lv_room (Nat.le_of_ble_eq_true rfl)) dX7_wakeIfCalledFor_1 ⟨Nat.le_of_ble_eq_true rfl, Nat.le_of_ble_eq_true rfl⟩) ?_
  have ht8 : zR (twZ (nxZ tlat nT) now) := by unfold twZ; split <;> omega
  refine zi_fne (tgt := 11) hx hb (by omega) dX7_wakeIfCalledFor_4 (by decide) (fun c_1 => ?_) (fun c_1 => ?_)
  · skip
    refine lv_iconst (v := iI 0) hx hb dX7_wakeIfCalledFor_11 rfl ?_
    refine lv_istore_n (lv' := [(1, .int (iI 0)), (0, .ref (q 0))]) hx hb dX7_wakeIfCalledFor_12 rfl hl (by decide) rfl (fun ls hl => ?_)
    refine lv_iload_n hx hb dX7_wakeIfCalledFor_13 rfl (lv_at hl 0 rfl) ?_
    refine zi_fne (tgt := 32) hx hb (by decide) dX7_wakeIfCalledFor_14 (by decide) (fun c_2 => ?_) (fun c_2 => ?_)
    · skip
      exact absurd c_2 (by decide)
    · skip
      refine lv_aload_n hx hb dX7_wakeIfCalledFor_17 rfl (lv_at hl 1 rfl) ?_
      refine va_get (D := (dC, dI)) (ci := 7) (v := .ref (q 16)) (C := RX7) (T := TX7) (N := 13) hx hb hts hinX7 hown hK.1 hP 0 rfl rfl 4 (by decide) (hts _ (List.mem_of_getElem? (i := 1) rfl)) (fun _ h9 => h9) rfl dX7_wakeIfCalledFor_18 ?_
      refine lv_aload_n hx hb dX7_wakeIfCalledFor_21 rfl (lv_at hl 1 rfl) ?_
      refine va_get (D := (dC, dI)) (ci := 7) (v := .int (iI now)) (C := RX7) (T := TX7) (N := 13) hx hb hts hinX7 hown hK.1 hP 0 rfl rfl 10 (by decide) (hts _ (List.mem_of_getElem? (i := 2) rfl)) (fun _ h9 => h9) rfl dX7_wakeIfCalledFor_22 ?_
      refine zc_pi (va_runV (As := [.int (iI now)]) (rest := []) ⟨hx, hb, hml, hown, hts⟩ (kX3_isAnyDue l dC dI cI cJ cZ (q 16) (q 17) (q 18) (q 19) edue elat ewk nE now (by first | assumption | omega) (by first | assumption | omega) (by first | assumption | omega) (by first | assumption | omega) (by first | assumption | omega)) (cwV 1 hts gX7_wakeIfCalledFor_X3_isAnyDue rfl rfl rfl (by decide +kernel) ⟨Nat.le_of_ble_eq_true rfl, Nat.le_of_ble_eq_true rfl⟩) (zqV hK hP [16, 17, 18, 19] rfl 16 rfl rfl) rfl rfl hl.1 rfl (lv_room (Nat.le_of_ble_eq_true rfl)) dX7_wakeIfCalledFor_25 ⟨Nat.le_of_ble_eq_true rfl, Nat.le_of_ble_eq_true rfl⟩) ?_
      refine zb_fne (tgt := 32) hx hb dX7_wakeIfCalledFor_28 (by decide) (fun c_3 => ?_) (fun c_3 => ?_)
      · skip
        refine lv_iload_n hx hb dX7_wakeIfCalledFor_32 rfl (lv_at hl 0 rfl) ?_
        refine zi_fne (tgt := 78) hx hb (by decide) dX7_wakeIfCalledFor_33 (by decide) (fun c_4 => ?_) (fun c_4 => ?_)
        · skip
          exact absurd c_4 (by decide)
        · skip
          refine lv_aload_n hx hb dX7_wakeIfCalledFor_36 rfl (lv_at hl 1 rfl) ?_
          refine va_get (D := (dC, dI)) (ci := 7) (v := .ref (q 22)) (C := RX7) (T := TX7) (N := 13) hx hb hts hinX7 hown hK.1 hP 0 rfl rfl 6 (by decide) (hts _ (List.mem_of_getElem? (i := 3) rfl)) (fun _ h9 => h9) rfl dX7_wakeIfCalledFor_37 ?_
          refine lv_aload_n hx hb dX7_wakeIfCalledFor_40 rfl (lv_at hl 1 rfl) ?_
          refine va_get (D := (dC, dI)) (ci := 7) (v := .ref (q 1)) (C := RX7) (T := TX7) (N := 13) hx hb hts hinX7 hown hK.1 hP 0 rfl rfl 0 (by decide) (hts _ (List.mem_of_getElem? (i := 4) rfl)) (fun _ h9 => h9) rfl dX7_wakeIfCalledFor_41 ?_
          refine lv_aload_n hx hb dX7_wakeIfCalledFor_44 rfl (lv_at hl 1 rfl) ?_
          refine va_get (D := (dC, dI)) (ci := 7) (v := .int (iI st)) (C := RX7) (T := TX7) (N := 13) hx hb hts hinX7 hown hK.1 hP 0 rfl rfl 11 (by decide) (hts _ (List.mem_of_getElem? (i := 5) rfl)) (fun _ h9 => h9) rfl dX7_wakeIfCalledFor_45 ?_
          refine zc_pi (va_runV (As := [.int (iI st)]) (rest := [.ref (q 22)]) ⟨hx, hb, hml, hown, hts⟩ (kX6_wakingCost l dC dI cI cJ cZ (q 1) (q 2) (q 3) (q 4) pw co la st (by first | assumption | omega)) (cwV 1 hts gX7_wakeIfCalledFor_X6_wakingCost rfl rfl rfl (by decide +kernel) ⟨Nat.le_of_ble_eq_true rfl, Nat.le_of_ble_eq_true rfl⟩) (zqV hK hP [1, 2, 3, 4] rfl 1 rfl rfl) rfl rfl hl.1 rfl (lv_room (Nat.le_of_ble_eq_true rfl)) dX7_wakeIfCalledFor_48 ⟨Nat.le_of_ble_eq_true rfl, Nat.le_of_ble_eq_true rfl⟩) ?_
          have e_5 := mul_r (hpw 0 (by omega) (by omega)) (hla st (by omega) (by omega))
          refine zi_l hx hb (by omega) dX7_wakeIfCalledFor_51 ?_
          refine zc_v (va_runV (As := [.long (lI (pw 0 * la st))]) (rest := []) ⟨hx, hb, hml, hown, hts⟩ (kX4_spend l dC dI cI cJ cZ (q 22) (q 23) tin sp pe slp late srv (pw 0 * la st) s.heap.size) (cwV 1 hts gX7_wakeIfCalledFor_X4_spend rfl rfl rfl (by decide +kernel) ⟨Nat.le_of_ble_eq_true rfl, Nat.le_of_ble_eq_true rfl⟩) (zpV hK hP hD [22, 23] rfl rfl 22 rfl rfl) rfl rfl hl.1 rfl (lv_room (Nat.le_of_ble_eq_true rfl)) dX7_wakeIfCalledFor_52 ⟨Nat.le_of_ble_eq_true rfl, Nat.le_of_ble_eq_true rfl⟩) hP hD hS hA [22, 23] [0, 1, 2, 3, 4, 5, 6, 7, 8, 9, 10, 11, 12, 13, 14, 15, 16, 17, 18, 19, 20, 21, 24, 25, 26, 27, 28] rfl rfl rfl (by decide) (fun u_7 H locs r_6 hP hD hS => ?_)
          have hP : va_P (dC, dI) vwCl (wP cI cJ cZ q pw co la vo cpar fr cdee use run nC tdue tlat twk nT edue elat ewk nE len cnt tin (sp + (pw 0 * la st)) (pe + (pw 0 * la st)) slp late srv hv av bd sh sc lt rule now st asl idl idn par div dee) H := hP.sub [0, 1, 2, 3, 4, 5, 6, 7, 8, 9, 10, 11, 12, 13, 14, 15, 16, 17, 18, 19, 20, 21, 27, 28, 22, 23, 24, 25, 26] (z_fm rfl)
          have hD : va_D A (wP cI cJ cZ q pw co la vo cpar fr cdee use run nC tdue tlat twk nT edue elat ewk nE len cnt tin (sp + (pw 0 * la st)) (pe + (pw 0 * la st)) slp late srv hv av bd sh sc lt rule now st asl idl idn par div dee) := hD.sub [0, 1, 2, 3, 4, 5, 6, 7, 8, 9, 10, 11, 12, 13, 14, 15, 16, 17, 18, 19, 20, 21, 27, 28, 22, 23, 24, 25, 26] (by decide) rfl
          refine lv_aload_n hx hb dX7_wakeIfCalledFor_55 rfl (lv_at hl 1 rfl) ?_
          refine va_get (D := (dC, dI)) (ci := 7) (v := .ref (q 22)) (C := RX7) (T := TX7) (N := 13) hx hb hts hinX7 hown hK.1 hP 0 rfl rfl 6 (by decide) (hts _ (List.mem_of_getElem? (i := 3) rfl)) (fun _ h9 => h9) rfl dX7_wakeIfCalledFor_56 ?_
          refine lv_dup hx hb dX7_wakeIfCalledFor_59 rfl ?_
          refine va_getN (D := (dC, dI)) (ci := 4) (v := .int (iI late)) (C := RX4) (T := TX4) (N := 6) (host := "SleepPlanner") hx hb hts hinX4 hown hK.1 hP 22 rfl rfl 4 (by decide) (va_Nw.use rfl (hK.2.1 _ (List.mem_of_getElem? (i := 3) rfl))) (fun _ h9 => h9) rfl dX7_wakeIfCalledFor_60 ?_
          refine lv_aload_n hx hb dX7_wakeIfCalledFor_63 rfl (lv_at hl 1 rfl) ?_
          refine va_get (D := (dC, dI)) (ci := 7) (v := .ref (q 1)) (C := RX7) (T := TX7) (N := 13) hx hb hts hinX7 hown hK.1 hP 0 rfl rfl 0 (by decide) (hts _ (List.mem_of_getElem? (i := 4) rfl)) (fun _ h9 => h9) rfl dX7_wakeIfCalledFor_64 ?_
          refine lv_aload_n hx hb dX7_wakeIfCalledFor_67 rfl (lv_at hl 1 rfl) ?_
          refine va_get (D := (dC, dI)) (ci := 7) (v := .int (iI st)) (C := RX7) (T := TX7) (N := 13) hx hb hts hinX7 hown hK.1 hP 0 rfl rfl 11 (by decide) (hts _ (List.mem_of_getElem? (i := 5) rfl)) (fun _ h9 => h9) rfl dX7_wakeIfCalledFor_68 ?_
          refine zc_pi (va_runV (As := [.int (iI st)]) (rest := [.int (iI late), .ref (q 22)]) ⟨hx, hb, hml, hown, hts⟩ (kX6_latencyOf l dC dI cI cJ cZ (q 1) (q 2) (q 3) (q 4) pw co la st (by first | assumption | omega)) (cwV 1 hts gX7_wakeIfCalledFor_X6_latencyOf rfl rfl rfl (by decide +kernel) ⟨Nat.le_of_ble_eq_true rfl, Nat.le_of_ble_eq_true rfl⟩) (zqV hK hP [1, 2, 3, 4] rfl 1 rfl rfl) rfl rfl hl.1 rfl (lv_room (Nat.le_of_ble_eq_true rfl)) dX7_wakeIfCalledFor_71 ⟨Nat.le_of_ble_eq_true rfl, Nat.le_of_ble_eq_true rfl⟩) ?_
          refine zi_add hx hb dX7_wakeIfCalledFor_74 ?_
          refine va_putN (D := (dC, dI)) (ci := 4) (v := .int (iI (late + (la st)))) (ty := .int) (C := RX4) (T := TX4) (N := 6) (host := "SleepPlanner") hx hb hts hinX4 tyX4 tyX4_ok nmX4 hown hK.1 hP hD hS 22 rfl rfl 4 (by decide) (va_Nw.use rfl (hK.2.1 _ (List.mem_of_getElem? (i := 3) rfl))) (fun _ h9 => h9) rfl (by decide +kernel) rfl rfl (Nat.le_of_ble_eq_true rfl) dX7_wakeIfCalledFor_75 (fun H locs hP hD hS => ?_)
          have hP : va_P (dC, dI) vwCl (wP cI cJ cZ q pw co la vo cpar fr cdee use run nC tdue tlat twk nT edue elat ewk nE len cnt tin (sp + (pw 0 * la st)) (pe + (pw 0 * la st)) slp (late + (la st)) srv hv av bd sh sc lt rule now st asl idl idn par div dee) H := hP
          have hD : va_D A (wP cI cJ cZ q pw co la vo cpar fr cdee use run nC tdue tlat twk nT edue elat ewk nE len cnt tin (sp + (pw 0 * la st)) (pe + (pw 0 * la st)) slp (late + (la st)) srv hv av bd sh sc lt rule now st asl idl idn par div dee) := hD
          refine lv_aload_n hx hb dX7_wakeIfCalledFor_78 rfl (lv_at hl 1 rfl) ?_
          refine zc_v (va_runV (As := []) (rest := []) ⟨hx, hb, hml, hown, hts⟩ (kX7_endIdleTime l dC dI cI cJ cZ q pw co la vo cpar fr cdee use run nC tdue tlat twk nT edue elat ewk nE len cnt tin (sp + (pw 0 * la st)) (pe + (pw 0 * la st)) slp (late + (la st)) srv hv av bd sh sc lt rule now st asl idl idn par div dee (by first | assumption | omega) H.size) (cwV 0 hts gX7_wakeIfCalledFor_X7_endIdleTime rfl rfl rfl (by decide +kernel) ⟨Nat.le_of_ble_eq_true rfl, Nat.le_of_ble_eq_true rfl⟩) (zpV hK hP hD [0, 1, 2, 3, 4, 5, 6, 7, 8, 9, 10, 11, 12, 13, 14, 15, 16, 17, 18, 19, 20, 21, 22, 23, 24, 25, 26, 27, 28] rfl rfl 0 rfl rfl) rfl rfl hl.1 rfl (lv_room (Nat.le_of_ble_eq_true rfl)) dX7_wakeIfCalledFor_79 ⟨Nat.le_of_ble_eq_true rfl, Nat.le_of_ble_eq_true rfl⟩) hP hD hS hA [0, 1, 2, 3, 4, 5, 6, 7, 8, 9, 10, 11, 12, 13, 14, 15, 16, 17, 18, 19, 20, 21, 22, 23, 24, 25, 26, 27, 28] [] rfl rfl rfl (by decide) (fun u_10 H locs r_9 hP hD hS => ?_)
          have hP : va_P (dC, dI) vwCl (wP cI cJ cZ q pw co la vo cpar fr cdee use run nC tdue tlat twk nT edue elat ewk nE (reZ len (now - asl)) (min (cnt + 1) 4) tin (sp + (pw 0 * la st)) (pe + (pw 0 * la st)) slp (late + (la st)) srv hv av bd sh sc lt rule now 0 asl (uZ idl (idn % 4) (now - asl)) (idn + 1) par div dee) H := hP
          have hD : va_D A (wP cI cJ cZ q pw co la vo cpar fr cdee use run nC tdue tlat twk nT edue elat ewk nE (reZ len (now - asl)) (min (cnt + 1) 4) tin (sp + (pw 0 * la st)) (pe + (pw 0 * la st)) slp (late + (la st)) srv hv av bd sh sc lt rule now 0 asl (uZ idl (idn % 4) (now - asl)) (idn + 1) par div dee) := hD
          subst hQ
          have hP : va_P (dC, dI) vwCl (wP cI cJ cZ q pw co la vo cpar fr cdee use run nC tdue tlat twk nT edue elat ewk nE (reZ len (now - asl)) (min (cnt + 1) 4) tin (sp + (pw 0 * la st)) (pe + (pw 0 * la st)) slp (late + (la st)) srv hv av bd sh sc lt rule now 0 asl (uZ idl (idn % 4) (now - asl)) (idn + 1) par div dee) H := hP
          have hD : va_D A (wP cI cJ cZ q pw co la vo cpar fr cdee use run nC tdue tlat twk nT edue elat ewk nE (reZ len (now - asl)) (min (cnt + 1) 4) tin (sp + (pw 0 * la st)) (pe + (pw 0 * la st)) slp (late + (la st)) srv hv av bd sh sc lt rule now 0 asl (uZ idl (idn % 4) (now - asl)) (idn + 1) par div dee) := hD
          exact zret_v (W1 := fun u9 : Int × Int × Int × Int × (Int → Int) × Int × (Int → Int) × Int => wP cI cJ cZ q pw co la vo cpar fr cdee use run nC tdue tlat twk nT edue elat ewk nE (u9.2.2.2.2.2.2.1) (u9.2.2.2.2.2.2.2) tin (u9.2.1) (u9.2.2.1) slp (u9.2.2.2.1) srv hv av bd sh sc lt rule now (u9.1) asl (u9.2.2.2.2.1) (u9.2.2.2.2.2.1) par div dee) (0, sp + (pw 0 * la st), pe + (pw 0 * la st), late + (la st), uZ idl (idn % 4) (now - asl), idn + 1, reZ len (now - asl), min (cnt + 1) 4) hx hb hr hP hD hS hlocks dX7_wakeIfCalledFor_82 (by refine ⟨?_, idR_s hid (by omega)⟩; unfold wkF; first | rw [if_pos (by omega)] | rw [if_neg (by omega), if_pos (by assumption)])
      · skip
        subst hQ
        exact zret_v (W1 := fun u9 : Int × Int × Int × Int × (Int → Int) × Int × (Int → Int) × Int => wP cI cJ cZ q pw co la vo cpar fr cdee use run nC tdue tlat twk nT edue elat ewk nE (u9.2.2.2.2.2.2.1) (u9.2.2.2.2.2.2.2) tin (u9.2.1) (u9.2.2.1) slp (u9.2.2.2.1) srv hv av bd sh sc lt rule now (u9.1) asl (u9.2.2.2.2.1) (u9.2.2.2.2.2.1) par div dee) (st, sp, pe, late, idl, idn, len, cnt) hx hb hr hP hD hS hlocks dX7_wakeIfCalledFor_31 (by exact ⟨by unfold wkF; rw [if_neg (by omega), if_neg (by assumption)], hid⟩)
  · skip
    refine lv_iconst (v := iI 1) hx hb dX7_wakeIfCalledFor_7 rfl ?_
    refine lv_goto (tgt := 12) hx hb dX7_wakeIfCalledFor_8 (by decide) ?_
    refine lv_istore_n (lv' := [(1, .int (iI 1)), (0, .ref (q 0))]) hx hb dX7_wakeIfCalledFor_12 rfl hl (by decide) rfl (fun ls hl => ?_)
    refine lv_iload_n hx hb dX7_wakeIfCalledFor_13 rfl (lv_at hl 0 rfl) ?_
    refine zi_fne (tgt := 32) hx hb (by decide) dX7_wakeIfCalledFor_14 (by decide) (fun c_12 => ?_) (fun c_12 => ?_)
    · skip
      refine lv_iload_n hx hb dX7_wakeIfCalledFor_32 rfl (lv_at hl 0 rfl) ?_
      refine zi_fne (tgt := 78) hx hb (by decide) dX7_wakeIfCalledFor_33 (by decide) (fun c_13 => ?_) (fun c_13 => ?_)
      · skip
        refine lv_aload_n hx hb dX7_wakeIfCalledFor_78 rfl (lv_at hl 1 rfl) ?_
        refine zc_v (va_runV (As := []) (rest := []) ⟨hx, hb, hml, hown, hts⟩ (kX7_endIdleTime l dC dI cI cJ cZ q pw co la vo cpar fr cdee use run nC tdue tlat twk nT edue elat ewk nE len cnt tin sp pe slp late srv hv av bd sh sc lt rule now st asl idl idn par div dee (by first | assumption | omega) s.heap.size) (cwV 0 hts gX7_wakeIfCalledFor_X7_endIdleTime rfl rfl rfl (by decide +kernel) ⟨Nat.le_of_ble_eq_true rfl, Nat.le_of_ble_eq_true rfl⟩) (zpV hK hP hD [0, 1, 2, 3, 4, 5, 6, 7, 8, 9, 10, 11, 12, 13, 14, 15, 16, 17, 18, 19, 20, 21, 22, 23, 24, 25, 26, 27, 28] rfl rfl 0 rfl rfl) rfl rfl hl.1 rfl (lv_room (Nat.le_of_ble_eq_true rfl)) dX7_wakeIfCalledFor_79 ⟨Nat.le_of_ble_eq_true rfl, Nat.le_of_ble_eq_true rfl⟩) hP hD hS hA [0, 1, 2, 3, 4, 5, 6, 7, 8, 9, 10, 11, 12, 13, 14, 15, 16, 17, 18, 19, 20, 21, 22, 23, 24, 25, 26, 27, 28] [] rfl rfl rfl (by decide) (fun u_15 H locs r_14 hP hD hS => ?_)
        have hP : va_P (dC, dI) vwCl (wP cI cJ cZ q pw co la vo cpar fr cdee use run nC tdue tlat twk nT edue elat ewk nE (reZ len (now - asl)) (min (cnt + 1) 4) tin sp pe slp late srv hv av bd sh sc lt rule now 0 asl (uZ idl (idn % 4) (now - asl)) (idn + 1) par div dee) H := hP
        have hD : va_D A (wP cI cJ cZ q pw co la vo cpar fr cdee use run nC tdue tlat twk nT edue elat ewk nE (reZ len (now - asl)) (min (cnt + 1) 4) tin sp pe slp late srv hv av bd sh sc lt rule now 0 asl (uZ idl (idn % 4) (now - asl)) (idn + 1) par div dee) := hD
        subst hQ
        have hP : va_P (dC, dI) vwCl (wP cI cJ cZ q pw co la vo cpar fr cdee use run nC tdue tlat twk nT edue elat ewk nE (reZ len (now - asl)) (min (cnt + 1) 4) tin sp pe slp late srv hv av bd sh sc lt rule now 0 asl (uZ idl (idn % 4) (now - asl)) (idn + 1) par div dee) H := hP
        have hD : va_D A (wP cI cJ cZ q pw co la vo cpar fr cdee use run nC tdue tlat twk nT edue elat ewk nE (reZ len (now - asl)) (min (cnt + 1) 4) tin sp pe slp late srv hv av bd sh sc lt rule now 0 asl (uZ idl (idn % 4) (now - asl)) (idn + 1) par div dee) := hD
        exact zret_v (W1 := fun u9 : Int × Int × Int × Int × (Int → Int) × Int × (Int → Int) × Int => wP cI cJ cZ q pw co la vo cpar fr cdee use run nC tdue tlat twk nT edue elat ewk nE (u9.2.2.2.2.2.2.1) (u9.2.2.2.2.2.2.2) tin (u9.2.1) (u9.2.2.1) slp (u9.2.2.2.1) srv hv av bd sh sc lt rule now (u9.1) asl (u9.2.2.2.2.1) (u9.2.2.2.2.2.1) par div dee) (0, sp, pe, late, uZ idl (idn % 4) (now - asl), idn + 1, reZ len (now - asl), min (cnt + 1) 4) hx hb hr hP hD hS hlocks dX7_wakeIfCalledFor_82 (by refine ⟨?_, idR_s hid (by omega)⟩; unfold wkF; first | rw [if_pos (by omega)] | rw [if_neg (by omega), if_pos (by assumption)])
      · skip
        exact absurd c_13 (by decide)
    · skip
      exact absurd c_12 (by decide)
def rmX7_serveWhatIsDue : Room := { frames := 2, cells := 0, slots := 0, locals := 42 }
set_option maxRecDepth 100000 in
set_option maxHeartbeats 4000000 in
theorem kX7_serveWhatIsDue (l : Launch) (dC : Nat → ClassId) (dI : Nat → Nat → Nat) (cI cJ cZ : ClassId) (q : Nat → Nat)  (pw : Int → Int) (co : Int → Int) (la : Int → Int) (vo : Int → Int) (cpar : Int → Int) (fr : Int → Int) (cdee : Int → Int) (use : Int → Int) (run : Int → Int) (nC : Int) (tdue : Int → Int) (tlat : Int → Int) (twk : Int → Int) (nT : Int) (edue : Int → Int) (elat : Int → Int) (ewk : Int → Int) (nE : Int) (len : Int → Int) (cnt : Int) (tin : Int → Int) (sp : Int) (pe : Int) (slp : Int) (late : Int) (srv : Int) (hv : Int → Int) (av : Int) (bd : Int) (sh : Int) (sc : Int → Int) (lt : Int → Int) (rule : Int) (now : Int) (st : Int) (asl : Int) (idl : Int → Int) (idn : Int) (par : Int → Int) (div : Int → Int) (dee : Int → Int) (hpw : rgZ pw 4 1000) (hco : rgZ co 4 10000) (hla : rgZ la 4 100) (hnow : 0 ≤ now ∧ now ≤ 200000) (hnT : 0 ≤ nT ∧ nT ≤ 12) (htd : rgZ tdue 12 1000000) (htl : rgZ tlat 12 1000000) (htw : rgZ twk 12 50) (hnE : 0 ≤ nE ∧ nE ≤ 12) (hed : rgZ edue 12 1000000) (hel : rgZ elat 12 1000000) (hew : rgZ ewk 12 50) : zMv l yX7_serveWhatIsDue wsX7_serveWhatIsDue rmX7_serveWhatIsDue (dC, dI) (zT cI cJ cZ) (wP cI cJ cZ q pw co la vo cpar fr cdee use run nC tdue tlat twk nT edue elat ewk nE len cnt tin sp pe slp late srv hv av bd sh sc lt rule now st asl idl idn par div dee) [.ref (q 0)] (fun (_ : Unit) => True) (fun _ : Unit => wP cI cJ cZ q pw co la vo cpar fr cdee use run nC ((tdZ now tdue tlat twk nT).2.2.1) ((tdZ now tdue tlat twk nT).2.2.2.1) ((tdZ now tdue tlat twk nT).2.2.2.2) ((tdZ now tdue tlat twk nT).2.1) ((teZ now edue ewk nE).2.2.1) ((tdZ now edue elat ewk nE).2.2.2.1) ((teZ now edue ewk nE).2.2.2) ((teZ now edue ewk nE).2.1) len cnt tin (sp + ((teZ now edue ewk nE).1 + (tdZ now tdue tlat twk nT).1) * pw 0) (pe + ((teZ now edue ewk nE).1 + (tdZ now tdue tlat twk nT).1) * pw 0) slp late (srv + ((teZ now edue ewk nE).1 + (tdZ now tdue tlat twk nT).1)) hv av bd sh sc lt rule now st asl idl idn par div dee) 0 0 := by
  refine zent_v (cc := cX7_serveWhatIsDue) (maxL := 2) (ret := none) (by decide +kernel) rfl (Nat.le_of_ble_eq_true rfl) ?_
  intro p e s m below meth c A ls hE hP hK hA hD hS hl
  obtain ⟨hx, hb, hr, hml, hown, hts, hlocks, hmn⟩ := hE
  have hinX7 : ∀ w ∈ u_ws RX7 TX7 13, w ∈ wsX7_serveWhatIsDue := by decide +kernel
  have hinX4 : ∀ w ∈ u_ws RX4 TX4 6, w ∈ wsX7_serveWhatIsDue := by decide +kernel
  have hinX3 : ∀ w ∈ u_ws RX3 TX3 4, w ∈ wsX7_serveWhatIsDue := by decide +kernel
  have hinX6 : ∀ w ∈ u_ws RX6 TX6 3, w ∈ wsX7_serveWhatIsDue := by decide +kernel
  have hl : lv_has ls 2 [(0, .ref (q 0))] := hl
  refine z_gen (fun Q hQ => ?_)
  have hte := te_td now edue elat ewk hnE.1
  have h91 := td_r (t := now) (k := nE) hed hel hew hnE
  have h92 := td_r (t := now) (k := nT) htd htl htw hnT
  have h93 := hpw 0 (by omega) (by omega)
  refine lv_aload_n hx hb dX7_serveWhatIsDue_0 rfl (lv_at hl 0 rfl) ?_
  refine va_get (D := (dC, dI)) (ci := 7) (v := .ref (q 16)) (C := RX7) (T := TX7) (N := 13) hx hb hts hinX7 hown hK.1 hP 0 rfl rfl 4 (by decide) (hts _ (List.mem_of_getElem? (i := 1) rfl)) (fun _ h9 => h9) rfl dX7_serveWhatIsDue_1 ?_
  refine lv_aload_n hx hb dX7_serveWhatIsDue_4 rfl (lv_at hl 0 rfl) ?_
  refine va_get (D := (dC, dI)) (ci := 7) (v := .int (iI now)) (C := RX7) (T := TX7) (N := 13) hx hb hts hinX7 hown hK.1 hP 0 rfl rfl 10 (by decide) (hts _ (List.mem_of_getElem? (i := 2) rfl)) (fun _ h9 => h9) rfl dX7_serveWhatIsDue_5 ?_
  refine zc_i (va_runV (As := [.int (iI now)]) (rest := []) ⟨hx, hb, hml, hown, hts⟩ (kX3_takeDue l dC dI cI cJ cZ (q 16) (q 17) (q 18) (q 19) edue elat ewk nE now (by first | assumption | omega) (by first | assumption | omega) (by first | assumption | omega) (by first | assumption | omega) (by first | assumption | omega) s.heap.size) (cwV 1 hts gX7_serveWhatIsDue_X3_takeDue rfl rfl rfl (by decide +kernel) ⟨Nat.le_of_ble_eq_true rfl, Nat.le_of_ble_eq_true rfl⟩) (zpV hK hP hD [16, 17, 18, 19] rfl rfl 16 rfl rfl) rfl rfl hl.1 rfl (lv_room (Nat.le_of_ble_eq_true rfl)) dX7_serveWhatIsDue_8 ⟨Nat.le_of_ble_eq_true rfl, Nat.le_of_ble_eq_true rfl⟩) hP hD hS hA [16, 17, 18, 19] [0, 1, 2, 3, 4, 5, 6, 7, 8, 9, 10, 11, 12, 13, 14, 15, 20, 21, 22, 23, 24, 25, 26, 27, 28] rfl rfl rfl (by decide) (fun v_3 u_2 H locs r_1 hP hD hS => ?_)
  refine ze_i r_1 ?_
  have hP : va_P (dC, dI) vwCl (wP cI cJ cZ q pw co la vo cpar fr cdee use run nC tdue tlat twk nT ((tdZ now edue elat ewk nE).2.2.1) ((tdZ now edue elat ewk nE).2.2.2.1) ((tdZ now edue elat ewk nE).2.2.2.2) ((tdZ now edue elat ewk nE).2.1) len cnt tin sp pe slp late srv hv av bd sh sc lt rule now st asl idl idn par div dee) H := hP.sub [0, 1, 2, 3, 4, 5, 6, 7, 8, 9, 10, 11, 12, 13, 14, 15, 25, 26, 27, 28, 16, 17, 18, 19, 20, 21, 22, 23, 24] (z_fm rfl)
  have hD : va_D A (wP cI cJ cZ q pw co la vo cpar fr cdee use run nC tdue tlat twk nT ((tdZ now edue elat ewk nE).2.2.1) ((tdZ now edue elat ewk nE).2.2.2.1) ((tdZ now edue elat ewk nE).2.2.2.2) ((tdZ now edue elat ewk nE).2.1) len cnt tin sp pe slp late srv hv av bd sh sc lt rule now st asl idl idn par div dee) := hD.sub [0, 1, 2, 3, 4, 5, 6, 7, 8, 9, 10, 11, 12, 13, 14, 15, 25, 26, 27, 28, 16, 17, 18, 19, 20, 21, 22, 23, 24] (by decide) rfl
  refine lv_aload_n hx hb dX7_serveWhatIsDue_11 rfl (lv_at hl 0 rfl) ?_
  refine va_get (D := (dC, dI)) (ci := 7) (v := .ref (q 12)) (C := RX7) (T := TX7) (N := 13) hx hb hts hinX7 hown hK.1 hP 0 rfl rfl 3 (by decide) (hts _ (List.mem_of_getElem? (i := 3) rfl)) (fun _ h9 => h9) rfl dX7_serveWhatIsDue_12 ?_
  refine lv_aload_n hx hb dX7_serveWhatIsDue_15 rfl (lv_at hl 0 rfl) ?_
  refine va_get (D := (dC, dI)) (ci := 7) (v := .int (iI now)) (C := RX7) (T := TX7) (N := 13) hx hb hts hinX7 hown hK.1 hP 0 rfl rfl 10 (by decide) (hts _ (List.mem_of_getElem? (i := 2) rfl)) (fun _ h9 => h9) rfl dX7_serveWhatIsDue_16 ?_
  refine zc_i (va_runV (As := [.int (iI now)]) (rest := [.int (iI ((tdZ now edue elat ewk nE).1))]) ⟨hx, hb, hml, hown, hts⟩ (kX3_takeDue l dC dI cI cJ cZ (q 12) (q 13) (q 14) (q 15) tdue tlat twk nT now (by first | assumption | omega) (by first | assumption | omega) (by first | assumption | omega) (by first | assumption | omega) (by first | assumption | omega) H.size) (cwV 1 hts gX7_serveWhatIsDue_X3_takeDue rfl rfl rfl (by decide +kernel) ⟨Nat.le_of_ble_eq_true rfl, Nat.le_of_ble_eq_true rfl⟩) (zpV hK hP hD [12, 13, 14, 15] rfl rfl 12 rfl rfl) rfl rfl hl.1 rfl (lv_room (Nat.le_of_ble_eq_true rfl)) dX7_serveWhatIsDue_19 ⟨Nat.le_of_ble_eq_true rfl, Nat.le_of_ble_eq_true rfl⟩) hP hD hS hA [12, 13, 14, 15] [0, 1, 2, 3, 4, 5, 6, 7, 8, 9, 10, 11, 16, 17, 18, 19, 20, 21, 22, 23, 24, 25, 26, 27, 28] rfl rfl rfl (by decide) (fun v_6 u_5 H locs r_4 hP hD hS => ?_)
  refine ze_i r_4 ?_
  have hP : va_P (dC, dI) vwCl (wP cI cJ cZ q pw co la vo cpar fr cdee use run nC ((tdZ now tdue tlat twk nT).2.2.1) ((tdZ now tdue tlat twk nT).2.2.2.1) ((tdZ now tdue tlat twk nT).2.2.2.2) ((tdZ now tdue tlat twk nT).2.1) ((tdZ now edue elat ewk nE).2.2.1) ((tdZ now edue elat ewk nE).2.2.2.1) ((tdZ now edue elat ewk nE).2.2.2.2) ((tdZ now edue elat ewk nE).2.1) len cnt tin sp pe slp late srv hv av bd sh sc lt rule now st asl idl idn par div dee) H := hP.sub [0, 1, 2, 3, 4, 5, 6, 7, 8, 9, 10, 11, 25, 26, 27, 28, 12, 13, 14, 15, 16, 17, 18, 19, 20, 21, 22, 23, 24] (z_fm rfl)
  have hD : va_D A (wP cI cJ cZ q pw co la vo cpar fr cdee use run nC ((tdZ now tdue tlat twk nT).2.2.1) ((tdZ now tdue tlat twk nT).2.2.2.1) ((tdZ now tdue tlat twk nT).2.2.2.2) ((tdZ now tdue tlat twk nT).2.1) ((tdZ now edue elat ewk nE).2.2.1) ((tdZ now edue elat ewk nE).2.2.2.1) ((tdZ now edue elat ewk nE).2.2.2.2) ((tdZ now edue elat ewk nE).2.1) len cnt tin sp pe slp late srv hv av bd sh sc lt rule now st asl idl idn par div dee) := hD.sub [0, 1, 2, 3, 4, 5, 6, 7, 8, 9, 10, 11, 25, 26, 27, 28, 12, 13, 14, 15, 16, 17, 18, 19, 20, 21, 22, 23, 24] (by decide) rfl
  refine zi_add hx hb dX7_serveWhatIsDue_22 ?_
  refine lv_istore_n (lv' := [(1, .int (iI (((tdZ now edue elat ewk nE).1) + ((tdZ now tdue tlat twk nT).1)))), (0, .ref (q 0))]) hx hb dX7_serveWhatIsDue_23 rfl hl (by decide) rfl (fun ls hl => ?_)
  refine lv_aload_n hx hb dX7_serveWhatIsDue_24 rfl (lv_at hl 1 rfl) ?_
  refine va_get (D := (dC, dI)) (ci := 7) (v := .ref (q 22)) (C := RX7) (T := TX7) (N := 13) hx hb hts hinX7 hown hK.1 hP 0 rfl rfl 6 (by decide) (hts _ (List.mem_of_getElem? (i := 4) rfl)) (fun _ h9 => h9) rfl dX7_serveWhatIsDue_25 ?_
  refine lv_dup hx hb dX7_serveWhatIsDue_28 rfl ?_
  refine va_getN (D := (dC, dI)) (ci := 4) (v := .int (iI srv)) (C := RX4) (T := TX4) (N := 6) (host := "SleepPlanner") hx hb hts hinX4 hown hK.1 hP 22 rfl rfl 5 (by decide) (va_Nw.use rfl (hK.2.1 _ (List.mem_of_getElem? (i := 4) rfl))) (fun _ h9 => h9) rfl dX7_serveWhatIsDue_29 ?_
  refine lv_iload_n hx hb dX7_serveWhatIsDue_32 rfl (lv_at hl 0 rfl) ?_
  refine zi_add hx hb dX7_serveWhatIsDue_33 ?_
  refine va_putN (D := (dC, dI)) (ci := 4) (v := .int (iI (srv + (((tdZ now edue elat ewk nE).1) + ((tdZ now tdue tlat twk nT).1))))) (ty := .int) (C := RX4) (T := TX4) (N := 6) (host := "SleepPlanner") hx hb hts hinX4 tyX4 tyX4_ok nmX4 hown hK.1 hP hD hS 22 rfl rfl 5 (by decide) (va_Nw.use rfl (hK.2.1 _ (List.mem_of_getElem? (i := 4) rfl))) (fun _ h9 => h9) rfl (by decide +kernel) rfl rfl (Nat.le_of_ble_eq_true rfl) dX7_serveWhatIsDue_34 (fun H locs hP hD hS => ?_)
  have hP : va_P (dC, dI) vwCl (wP cI cJ cZ q pw co la vo cpar fr cdee use run nC ((tdZ now tdue tlat twk nT).2.2.1) ((tdZ now tdue tlat twk nT).2.2.2.1) ((tdZ now tdue tlat twk nT).2.2.2.2) ((tdZ now tdue tlat twk nT).2.1) ((tdZ now edue elat ewk nE).2.2.1) ((tdZ now edue elat ewk nE).2.2.2.1) ((tdZ now edue elat ewk nE).2.2.2.2) ((tdZ now edue elat ewk nE).2.1) len cnt tin sp pe slp late (srv + (((tdZ now edue elat ewk nE).1) + ((tdZ now tdue tlat twk nT).1))) hv av bd sh sc lt rule now st asl idl idn par div dee) H := hP
  have hD : va_D A (wP cI cJ cZ q pw co la vo cpar fr cdee use run nC ((tdZ now tdue tlat twk nT).2.2.1) ((tdZ now tdue tlat twk nT).2.2.2.1) ((tdZ now tdue tlat twk nT).2.2.2.2) ((tdZ now tdue tlat twk nT).2.1) ((tdZ now edue elat ewk nE).2.2.1) ((tdZ now edue elat ewk nE).2.2.2.1) ((tdZ now edue elat ewk nE).2.2.2.2) ((tdZ now edue elat ewk nE).2.1) len cnt tin sp pe slp late (srv + (((tdZ now edue elat ewk nE).1) + ((tdZ now tdue tlat twk nT).1))) hv av bd sh sc lt rule now st asl idl idn par div dee) := hD
  refine lv_aload_n hx hb dX7_serveWhatIsDue_37 rfl (lv_at hl 1 rfl) ?_
  refine va_get (D := (dC, dI)) (ci := 7) (v := .ref (q 22)) (C := RX7) (T := TX7) (N := 13) hx hb hts hinX7 hown hK.1 hP 0 rfl rfl 6 (by decide) (hts _ (List.mem_of_getElem? (i := 4) rfl)) (fun _ h9 => h9) rfl dX7_serveWhatIsDue_38 ?_
  refine lv_iload_n hx hb dX7_serveWhatIsDue_41 rfl (lv_at hl 0 rfl) ?_
  refine zi_l hx hb (by omega) dX7_serveWhatIsDue_42 ?_
  refine lv_aload_n hx hb dX7_serveWhatIsDue_43 rfl (lv_at hl 1 rfl) ?_
  refine va_get (D := (dC, dI)) (ci := 7) (v := .ref (q 1)) (C := RX7) (T := TX7) (N := 13) hx hb hts hinX7 hown hK.1 hP 0 rfl rfl 0 (by decide) (hts _ (List.mem_of_getElem? (i := 5) rfl)) (fun _ h9 => h9) rfl dX7_serveWhatIsDue_44 ?_
  refine lv_iconst (v := iI 0) hx hb dX7_serveWhatIsDue_47 rfl ?_
  refine zc_pi (va_runV (As := [.int (iI 0)]) (rest := [.long (lI (((tdZ now edue elat ewk nE).1) + ((tdZ now tdue tlat twk nT).1))), .ref (q 22)]) ⟨hx, hb, hml, hown, hts⟩ (kX6_powerOf l dC dI cI cJ cZ (q 1) (q 2) (q 3) (q 4) pw co la 0 (by first | assumption | omega)) (cwV 1 hts gX7_serveWhatIsDue_X6_powerOf rfl rfl rfl (by decide +kernel) ⟨Nat.le_of_ble_eq_true rfl, Nat.le_of_ble_eq_true rfl⟩) (zqV hK hP [1, 2, 3, 4] rfl 1 rfl rfl) rfl rfl hl.1 rfl (lv_room (Nat.le_of_ble_eq_true rfl)) dX7_serveWhatIsDue_48 ⟨Nat.le_of_ble_eq_true rfl, Nat.le_of_ble_eq_true rfl⟩) ?_
  refine zi_l hx hb (by omega) dX7_serveWhatIsDue_51 ?_
  refine zl_mul hx hb dX7_serveWhatIsDue_52 ?_
  refine zc_v (va_runV (As := [.long (lI ((((tdZ now edue elat ewk nE).1) + ((tdZ now tdue tlat twk nT).1)) * (pw 0)))]) (rest := []) ⟨hx, hb, hml, hown, hts⟩ (kX4_spend l dC dI cI cJ cZ (q 22) (q 23) tin sp pe slp late (srv + (((tdZ now edue elat ewk nE).1) + ((tdZ now tdue tlat twk nT).1))) ((((tdZ now edue elat ewk nE).1) + ((tdZ now tdue tlat twk nT).1)) * (pw 0)) H.size) (cwV 1 hts gX7_serveWhatIsDue_X4_spend rfl rfl rfl (by decide +kernel) ⟨Nat.le_of_ble_eq_true rfl, Nat.le_of_ble_eq_true rfl⟩) (zpV hK hP hD [22, 23] rfl rfl 22 rfl rfl) rfl rfl hl.1 rfl (lv_room (Nat.le_of_ble_eq_true rfl)) dX7_serveWhatIsDue_53 ⟨Nat.le_of_ble_eq_true rfl, Nat.le_of_ble_eq_true rfl⟩) hP hD hS hA [22, 23] [0, 1, 2, 3, 4, 5, 6, 7, 8, 9, 10, 11, 12, 13, 14, 15, 16, 17, 18, 19, 20, 21, 24, 25, 26, 27, 28] rfl rfl rfl (by decide) (fun u_8 H locs r_7 hP hD hS => ?_)
  have hP : va_P (dC, dI) vwCl (wP cI cJ cZ q pw co la vo cpar fr cdee use run nC ((tdZ now tdue tlat twk nT).2.2.1) ((tdZ now tdue tlat twk nT).2.2.2.1) ((tdZ now tdue tlat twk nT).2.2.2.2) ((tdZ now tdue tlat twk nT).2.1) ((tdZ now edue elat ewk nE).2.2.1) ((tdZ now edue elat ewk nE).2.2.2.1) ((tdZ now edue elat ewk nE).2.2.2.2) ((tdZ now edue elat ewk nE).2.1) len cnt tin (sp + ((((tdZ now edue elat ewk nE).1) + ((tdZ now tdue tlat twk nT).1)) * (pw 0))) (pe + ((((tdZ now edue elat ewk nE).1) + ((tdZ now tdue tlat twk nT).1)) * (pw 0))) slp late (srv + (((tdZ now edue elat ewk nE).1) + ((tdZ now tdue tlat twk nT).1))) hv av bd sh sc lt rule now st asl idl idn par div dee) H := hP.sub [0, 1, 2, 3, 4, 5, 6, 7, 8, 9, 10, 11, 12, 13, 14, 15, 16, 17, 18, 19, 20, 21, 27, 28, 22, 23, 24, 25, 26] (z_fm rfl)
  have hD : va_D A (wP cI cJ cZ q pw co la vo cpar fr cdee use run nC ((tdZ now tdue tlat twk nT).2.2.1) ((tdZ now tdue tlat twk nT).2.2.2.1) ((tdZ now tdue tlat twk nT).2.2.2.2) ((tdZ now tdue tlat twk nT).2.1) ((tdZ now edue elat ewk nE).2.2.1) ((tdZ now edue elat ewk nE).2.2.2.1) ((tdZ now edue elat ewk nE).2.2.2.2) ((tdZ now edue elat ewk nE).2.1) len cnt tin (sp + ((((tdZ now edue elat ewk nE).1) + ((tdZ now tdue tlat twk nT).1)) * (pw 0))) (pe + ((((tdZ now edue elat ewk nE).1) + ((tdZ now tdue tlat twk nT).1)) * (pw 0))) slp late (srv + (((tdZ now edue elat ewk nE).1) + ((tdZ now tdue tlat twk nT).1))) hv av bd sh sc lt rule now st asl idl idn par div dee) := hD.sub [0, 1, 2, 3, 4, 5, 6, 7, 8, 9, 10, 11, 12, 13, 14, 15, 16, 17, 18, 19, 20, 21, 27, 28, 22, 23, 24, 25, 26] (by decide) rfl
  subst hQ
  have w_10 : ((teZ now edue ewk nE).2.2.1) = ((tdZ now edue elat ewk nE).2.2.1) := by rw [hte]
  have w_11 : ((teZ now edue ewk nE).2.2.2) = ((tdZ now edue elat ewk nE).2.2.2.2) := by rw [hte]
  have w_12 : ((teZ now edue ewk nE).2.1) = ((tdZ now edue elat ewk nE).2.1) := by rw [hte]
  have w_13 : (sp + ((teZ now edue ewk nE).1 + (tdZ now tdue tlat twk nT).1) * pw 0) = (sp + ((((tdZ now edue elat ewk nE).1) + ((tdZ now tdue tlat twk nT).1)) * (pw 0))) := by rw [hte]
  have w_14 : (pe + ((teZ now edue ewk nE).1 + (tdZ now tdue tlat twk nT).1) * pw 0) = (pe + ((((tdZ now edue elat ewk nE).1) + ((tdZ now tdue tlat twk nT).1)) * (pw 0))) := by rw [hte]
  have w_15 : (srv + ((teZ now edue ewk nE).1 + (tdZ now tdue tlat twk nT).1)) = (srv + (((tdZ now edue elat ewk nE).1) + ((tdZ now tdue tlat twk nT).1))) := by rw [hte]
  have hP : va_P (dC, dI) vwCl (wP cI cJ cZ q pw co la vo cpar fr cdee use run nC ((tdZ now tdue tlat twk nT).2.2.1) ((tdZ now tdue tlat twk nT).2.2.2.1) ((tdZ now tdue tlat twk nT).2.2.2.2) ((tdZ now tdue tlat twk nT).2.1) ((teZ now edue ewk nE).2.2.1) ((tdZ now edue elat ewk nE).2.2.2.1) ((teZ now edue ewk nE).2.2.2) ((teZ now edue ewk nE).2.1) len cnt tin (sp + ((teZ now edue ewk nE).1 + (tdZ now tdue tlat twk nT).1) * pw 0) (pe + ((teZ now edue ewk nE).1 + (tdZ now tdue tlat twk nT).1) * pw 0) slp late (srv + ((teZ now edue ewk nE).1 + (tdZ now tdue tlat twk nT).1)) hv av bd sh sc lt rule now st asl idl idn par div dee) H := by rw [w_10, w_11, w_12, w_13, w_14, w_15]; exact hP
  have hD : va_D A (wP cI cJ cZ q pw co la vo cpar fr cdee use run nC ((tdZ now tdue tlat twk nT).2.2.1) ((tdZ now tdue tlat twk nT).2.2.2.1) ((tdZ now tdue tlat twk nT).2.2.2.2) ((tdZ now tdue tlat twk nT).2.1) ((teZ now edue ewk nE).2.2.1) ((tdZ now edue elat ewk nE).2.2.2.1) ((teZ now edue ewk nE).2.2.2) ((teZ now edue ewk nE).2.1) len cnt tin (sp + ((teZ now edue ewk nE).1 + (tdZ now tdue tlat twk nT).1) * pw 0) (pe + ((teZ now edue ewk nE).1 + (tdZ now tdue tlat twk nT).1) * pw 0) slp late (srv + ((teZ now edue ewk nE).1 + (tdZ now tdue tlat twk nT).1)) hv av bd sh sc lt rule now st asl idl idn par div dee) := by rw [w_10, w_11, w_12, w_13, w_14, w_15]; exact hD
  exact zret_v (W1 := fun _ : Unit => wP cI cJ cZ q pw co la vo cpar fr cdee use run nC ((tdZ now tdue tlat twk nT).2.2.1) ((tdZ now tdue tlat twk nT).2.2.2.1) ((tdZ now tdue tlat twk nT).2.2.2.2) ((tdZ now tdue tlat twk nT).2.1) ((teZ now edue ewk nE).2.2.1) ((tdZ now edue elat ewk nE).2.2.2.1) ((teZ now edue ewk nE).2.2.2) ((teZ now edue ewk nE).2.1) len cnt tin (sp + ((teZ now edue ewk nE).1 + (tdZ now tdue tlat twk nT).1) * pw 0) (pe + ((teZ now edue ewk nE).1 + (tdZ now tdue tlat twk nT).1) * pw 0) slp late (srv + ((teZ now edue ewk nE).1 + (tdZ now tdue tlat twk nT).1)) hv av bd sh sc lt rule now st asl idl idn par div dee) () hx hb hr hP hD hS hlocks dX7_serveWhatIsDue_56 (by trivial)
def rmX7_fallAsleep : Room := { frames := 2, cells := 0, slots := 0, locals := 42 }
set_option maxRecDepth 100000 in
set_option maxHeartbeats 4000000 in
theorem kX7_fallAsleep (l : Launch) (dC : Nat → ClassId) (dI : Nat → Nat → Nat) (cI cJ cZ : ClassId) (q : Nat → Nat)  (pw : Int → Int) (co : Int → Int) (la : Int → Int) (vo : Int → Int) (cpar : Int → Int) (fr : Int → Int) (cdee : Int → Int) (use : Int → Int) (run : Int → Int) (nC : Int) (tdue : Int → Int) (tlat : Int → Int) (twk : Int → Int) (nT : Int) (edue : Int → Int) (elat : Int → Int) (ewk : Int → Int) (nE : Int) (len : Int → Int) (cnt : Int) (tin : Int → Int) (sp : Int) (pe : Int) (slp : Int) (late : Int) (srv : Int) (hv : Int → Int) (av : Int) (bd : Int) (sh : Int) (sc : Int → Int) (lt : Int → Int) (rule : Int) (now : Int) (st : Int) (asl : Int) (idl : Int → Int) (idn : Int) (par : Int → Int) (div : Int → Int) (dee : Int → Int) (ch : Int) (hch : 0 ≤ ch ∧ ch ≤ 3) (hpw : rgZ pw 4 1000) (hco : rgZ co 4 10000) (hla : rgZ la 4 100) : zMv l yX7_fallAsleep wsX7_fallAsleep rmX7_fallAsleep (dC, dI) (zT cI cJ cZ) (wP cI cJ cZ q pw co la vo cpar fr cdee use run nC tdue tlat twk nT edue elat ewk nE len cnt tin sp pe slp late srv hv av bd sh sc lt rule now st asl idl idn par div dee) [.ref (q 0), .int (iI ch)] (fun (u9 : Int × Int × Int × Int × Int) => ((u9.1), (u9.2.1), (u9.2.2.1), (u9.2.2.2.1), (u9.2.2.2.2)) = faF co ch now st asl slp sp pe) (fun u9 : Int × Int × Int × Int × Int => wP cI cJ cZ q pw co la vo cpar fr cdee use run nC tdue tlat twk nT edue elat ewk nE len cnt tin (u9.2.2.2.1) (u9.2.2.2.2) (u9.2.2.1) late srv hv av bd sh sc lt rule now (u9.1) (u9.2.1) idl idn par div dee) 0 0 := by
  refine zent_v (cc := cX7_fallAsleep) (maxL := 2) (ret := none) (by decide +kernel) rfl (Nat.le_of_ble_eq_true rfl) ?_
  intro p e s m below meth c A ls hE hP hK hA hD hS hl
  obtain ⟨hx, hb, hr, hml, hown, hts, hlocks, hmn⟩ := hE
  have hinX7 : ∀ w ∈ u_ws RX7 TX7 13, w ∈ wsX7_fallAsleep := by decide +kernel
  have hinX4 : ∀ w ∈ u_ws RX4 TX4 6, w ∈ wsX7_fallAsleep := by decide +kernel
  have hinX6 : ∀ w ∈ u_ws RX6 TX6 3, w ∈ wsX7_fallAsleep := by decide +kernel
  have hl : lv_has ls 2 [(0, .ref (q 0)), (1, .int (iI ch))] := hl
  refine z_gen (fun Q hQ => ?_)
  refine lv_iload_n hx hb dX7_fallAsleep_0 rfl (lv_at hl 1 rfl) ?_
  refine zi_fne (tgt := 5) hx hb (by omega) dX7_fallAsleep_1 (by decide) (fun c_1 => ?_) (fun c_1 => ?_)
  · skip
    refine lv_aload_n hx hb dX7_fallAsleep_5 rfl (lv_at hl 0 rfl) ?_
    refine lv_iload_n hx hb dX7_fallAsleep_6 rfl (lv_at hl 1 rfl) ?_
    refine va_put (D := (dC, dI)) (ci := 7) (v := .int (iI ch)) (ty := .int) (C := RX7) (T := TX7) (N := 13) hx hb hts hinX7 tyX7 tyX7_ok nmX7 hown hK.1 hP hD hS 0 rfl rfl 11 (by decide) (hts _ (List.mem_of_getElem? (i := 1) rfl)) (fun _ h9 => h9) rfl (by decide +kernel) rfl rfl (Nat.le_of_ble_eq_true rfl) dX7_fallAsleep_7 (fun H locs hP hD hS => ?_)
    have hP : va_P (dC, dI) vwCl (wP cI cJ cZ q pw co la vo cpar fr cdee use run nC tdue tlat twk nT edue elat ewk nE len cnt tin sp pe slp late srv hv av bd sh sc lt rule now ch asl idl idn par div dee) H := hP
    have hD : va_D A (wP cI cJ cZ q pw co la vo cpar fr cdee use run nC tdue tlat twk nT edue elat ewk nE len cnt tin sp pe slp late srv hv av bd sh sc lt rule now ch asl idl idn par div dee) := hD
    refine lv_aload_n hx hb dX7_fallAsleep_10 rfl (lv_at hl 0 rfl) ?_
    refine lv_aload_n hx hb dX7_fallAsleep_11 rfl (lv_at hl 0 rfl) ?_
    refine va_get (D := (dC, dI)) (ci := 7) (v := .int (iI now)) (C := RX7) (T := TX7) (N := 13) hx hb hts hinX7 hown hK.1 hP 0 rfl rfl 10 (by decide) (hts _ (List.mem_of_getElem? (i := 2) rfl)) (fun _ h9 => h9) rfl dX7_fallAsleep_12 ?_
    refine va_put (D := (dC, dI)) (ci := 7) (v := .int (iI now)) (ty := .int) (C := RX7) (T := TX7) (N := 13) hx hb hts hinX7 tyX7 tyX7_ok nmX7 hown hK.1 hP hD hS 0 rfl rfl 12 (by decide) (hts _ (List.mem_of_getElem? (i := 3) rfl)) (fun _ h9 => h9) rfl (by decide +kernel) rfl rfl (Nat.le_of_ble_eq_true rfl) dX7_fallAsleep_15 (fun H locs hP hD hS => ?_)
    have hP : va_P (dC, dI) vwCl (wP cI cJ cZ q pw co la vo cpar fr cdee use run nC tdue tlat twk nT edue elat ewk nE len cnt tin sp pe slp late srv hv av bd sh sc lt rule now ch now idl idn par div dee) H := hP
    have hD : va_D A (wP cI cJ cZ q pw co la vo cpar fr cdee use run nC tdue tlat twk nT edue elat ewk nE len cnt tin sp pe slp late srv hv av bd sh sc lt rule now ch now idl idn par div dee) := hD
    refine lv_aload_n hx hb dX7_fallAsleep_18 rfl (lv_at hl 0 rfl) ?_
    refine va_get (D := (dC, dI)) (ci := 7) (v := .ref (q 22)) (C := RX7) (T := TX7) (N := 13) hx hb hts hinX7 hown hK.1 hP 0 rfl rfl 6 (by decide) (hts _ (List.mem_of_getElem? (i := 4) rfl)) (fun _ h9 => h9) rfl dX7_fallAsleep_19 ?_
    refine lv_dup hx hb dX7_fallAsleep_22 rfl ?_
    refine va_getN (D := (dC, dI)) (ci := 4) (v := .int (iI slp)) (C := RX4) (T := TX4) (N := 6) (host := "SleepPlanner") hx hb hts hinX4 hown hK.1 hP 22 rfl rfl 3 (by decide) (va_Nw.use rfl (hK.2.1 _ (List.mem_of_getElem? (i := 2) rfl))) (fun _ h9 => h9) rfl dX7_fallAsleep_23 ?_
    refine lv_iconst (v := iI 1) hx hb dX7_fallAsleep_26 rfl ?_
    refine zi_add hx hb dX7_fallAsleep_27 ?_
    refine va_putN (D := (dC, dI)) (ci := 4) (v := .int (iI (slp + 1))) (ty := .int) (C := RX4) (T := TX4) (N := 6) (host := "SleepPlanner") hx hb hts hinX4 tyX4 tyX4_ok nmX4 hown hK.1 hP hD hS 22 rfl rfl 3 (by decide) (va_Nw.use rfl (hK.2.1 _ (List.mem_of_getElem? (i := 2) rfl))) (fun _ h9 => h9) rfl (by decide +kernel) rfl rfl (Nat.le_of_ble_eq_true rfl) dX7_fallAsleep_28 (fun H locs hP hD hS => ?_)
    have hP : va_P (dC, dI) vwCl (wP cI cJ cZ q pw co la vo cpar fr cdee use run nC tdue tlat twk nT edue elat ewk nE len cnt tin sp pe (slp + 1) late srv hv av bd sh sc lt rule now ch now idl idn par div dee) H := hP
    have hD : va_D A (wP cI cJ cZ q pw co la vo cpar fr cdee use run nC tdue tlat twk nT edue elat ewk nE len cnt tin sp pe (slp + 1) late srv hv av bd sh sc lt rule now ch now idl idn par div dee) := hD
    refine lv_aload_n hx hb dX7_fallAsleep_31 rfl (lv_at hl 0 rfl) ?_
    refine va_get (D := (dC, dI)) (ci := 7) (v := .ref (q 22)) (C := RX7) (T := TX7) (N := 13) hx hb hts hinX7 hown hK.1 hP 0 rfl rfl 6 (by decide) (hts _ (List.mem_of_getElem? (i := 4) rfl)) (fun _ h9 => h9) rfl dX7_fallAsleep_32 ?_
    refine lv_aload_n hx hb dX7_fallAsleep_35 rfl (lv_at hl 0 rfl) ?_
    refine va_get (D := (dC, dI)) (ci := 7) (v := .ref (q 1)) (C := RX7) (T := TX7) (N := 13) hx hb hts hinX7 hown hK.1 hP 0 rfl rfl 0 (by decide) (hts _ (List.mem_of_getElem? (i := 5) rfl)) (fun _ h9 => h9) rfl dX7_fallAsleep_36 ?_
    refine lv_iload_n hx hb dX7_fallAsleep_39 rfl (lv_at hl 1 rfl) ?_
    refine zc_pi (va_runV (As := [.int (iI ch)]) (rest := [.ref (q 22)]) ⟨hx, hb, hml, hown, hts⟩ (kX6_costOf l dC dI cI cJ cZ (q 1) (q 2) (q 3) (q 4) pw co la ch (by first | assumption | omega)) (cwV 1 hts gX7_fallAsleep_X6_costOf rfl rfl rfl (by decide +kernel) ⟨Nat.le_of_ble_eq_true rfl, Nat.le_of_ble_eq_true rfl⟩) (zqV hK hP [1, 2, 3, 4] rfl 1 rfl rfl) rfl rfl hl.1 rfl (lv_room (Nat.le_of_ble_eq_true rfl)) dX7_fallAsleep_40 ⟨Nat.le_of_ble_eq_true rfl, Nat.le_of_ble_eq_true rfl⟩) ?_
    have e_2 := hco ch (by omega) (by omega)
    refine zi_l hx hb (by omega) dX7_fallAsleep_43 ?_
    refine zc_v (va_runV (As := [.long (lI (co ch))]) (rest := []) ⟨hx, hb, hml, hown, hts⟩ (kX4_spend l dC dI cI cJ cZ (q 22) (q 23) tin sp pe (slp + 1) late srv (co ch) H.size) (cwV 1 hts gX7_fallAsleep_X4_spend rfl rfl rfl (by decide +kernel) ⟨Nat.le_of_ble_eq_true rfl, Nat.le_of_ble_eq_true rfl⟩) (zpV hK hP hD [22, 23] rfl rfl 22 rfl rfl) rfl rfl hl.1 rfl (lv_room (Nat.le_of_ble_eq_true rfl)) dX7_fallAsleep_44 ⟨Nat.le_of_ble_eq_true rfl, Nat.le_of_ble_eq_true rfl⟩) hP hD hS hA [22, 23] [0, 1, 2, 3, 4, 5, 6, 7, 8, 9, 10, 11, 12, 13, 14, 15, 16, 17, 18, 19, 20, 21, 24, 25, 26, 27, 28] rfl rfl rfl (by decide) (fun u_4 H locs r_3 hP hD hS => ?_)
    have hP : va_P (dC, dI) vwCl (wP cI cJ cZ q pw co la vo cpar fr cdee use run nC tdue tlat twk nT edue elat ewk nE len cnt tin (sp + (co ch)) (pe + (co ch)) (slp + 1) late srv hv av bd sh sc lt rule now ch now idl idn par div dee) H := hP.sub [0, 1, 2, 3, 4, 5, 6, 7, 8, 9, 10, 11, 12, 13, 14, 15, 16, 17, 18, 19, 20, 21, 27, 28, 22, 23, 24, 25, 26] (z_fm rfl)
    have hD : va_D A (wP cI cJ cZ q pw co la vo cpar fr cdee use run nC tdue tlat twk nT edue elat ewk nE len cnt tin (sp + (co ch)) (pe + (co ch)) (slp + 1) late srv hv av bd sh sc lt rule now ch now idl idn par div dee) := hD.sub [0, 1, 2, 3, 4, 5, 6, 7, 8, 9, 10, 11, 12, 13, 14, 15, 16, 17, 18, 19, 20, 21, 27, 28, 22, 23, 24, 25, 26] (by decide) rfl
    subst hQ
    exact zret_v (W1 := fun u9 : Int × Int × Int × Int × Int => wP cI cJ cZ q pw co la vo cpar fr cdee use run nC tdue tlat twk nT edue elat ewk nE len cnt tin (u9.2.2.2.1) (u9.2.2.2.2) (u9.2.2.1) late srv hv av bd sh sc lt rule now (u9.1) (u9.2.1) idl idn par div dee) (ch, now, slp + 1, sp + (co ch), pe + (co ch)) hx hb hr hP hD hS hlocks dX7_fallAsleep_47 (by exact (if_neg (by omega)).symm)
  · skip
    subst hQ
    exact zret_v (W1 := fun u9 : Int × Int × Int × Int × Int => wP cI cJ cZ q pw co la vo cpar fr cdee use run nC tdue tlat twk nT edue elat ewk nE len cnt tin (u9.2.2.2.1) (u9.2.2.2.2) (u9.2.2.1) late srv hv av bd sh sc lt rule now (u9.1) (u9.2.1) idl idn par div dee) (st, asl, slp, sp, pe) hx hb hr hP hD hS hlocks dX7_fallAsleep_4 (by exact (if_pos (by omega)).symm)
def rmX7_powerOfTick : Room := { frames := 3, cells := 0, slots := 0, locals := 66 }
set_option maxRecDepth 100000 in
set_option maxHeartbeats 4000000 in
theorem kX7_powerOfTick (l : Launch) (dC : Nat → ClassId) (dI : Nat → Nat → Nat) (cI cJ cZ : ClassId) (q : Nat → Nat)  (pw : Int → Int) (co : Int → Int) (la : Int → Int) (vo : Int → Int) (cpar : Int → Int) (fr : Int → Int) (cdee : Int → Int) (use : Int → Int) (run : Int → Int) (nC : Int) (tdue : Int → Int) (tlat : Int → Int) (twk : Int → Int) (nT : Int) (edue : Int → Int) (elat : Int → Int) (ewk : Int → Int) (nE : Int) (len : Int → Int) (cnt : Int) (tin : Int → Int) (sp : Int) (pe : Int) (slp : Int) (late : Int) (srv : Int) (hv : Int → Int) (av : Int) (bd : Int) (sh : Int) (sc : Int → Int) (lt : Int → Int) (rule : Int) (now : Int) (st : Int) (asl : Int) (idl : Int → Int) (idn : Int) (par : Int → Int) (div : Int → Int) (dee : Int → Int) (hst : 0 ≤ st ∧ st ≤ 3) (hpw : rgZ pw 4 1000) (hco : rgZ co 4 10000) (hla : rgZ la 4 100) (hnow : 0 ≤ now ∧ now ≤ 200000) (hnT : 0 ≤ nT ∧ nT ≤ 12) (htd : rgZ tdue 12 1000000) (htl : rgZ tlat 12 1000000) (htw : rgZ twk 12 50) : zPi l yX7_powerOfTick wsX7_powerOfTick rmX7_powerOfTick (dC, dI) (zT cI cJ cZ) (wP cI cJ cZ q pw co la vo cpar fr cdee use run nC tdue tlat twk nT edue elat ewk nE len cnt tin sp pe slp late srv hv av bd sh sc lt rule now st asl idl idn par div dee) [.ref (q 0)] (poZ pw la st (nxZ tlat nT) now) := by
  refine zent_pi (cc := cX7_powerOfTick) (maxL := 2) (ret := (some .int)) (by decide +kernel) rfl (Nat.le_of_ble_eq_true rfl) ?_
  intro p e s m below meth c ls hE hP hK hl
  obtain ⟨hx, hb, hr, hml, hown, hts, hlocks, hmn⟩ := hE
  have hinX7 : ∀ w ∈ u_ws RX7 TX7 13, w ∈ wsX7_powerOfTick := by decide +kernel
  have hinX3 : ∀ w ∈ u_ws RX3 TX3 4, w ∈ wsX7_powerOfTick := by decide +kernel
  have hinX6 : ∀ w ∈ u_ws RX6 TX6 3, w ∈ wsX7_powerOfTick := by decide +kernel
  have hl : lv_has ls 2 [(0, .ref (q 0))] := hl
  refine z_gen (fun Q hQ => ?_)
  have hn9 := nx_r htl hnT
  have hl9 := hla st (by omega) (by omega)
  have ht9 : twZ (nxZ tlat nT) now ≤ la st ↔ nxZ tlat nT - now ≤ la st := by unfold twZ; split <;> omega
  have ht8 : zR (twZ (nxZ tlat nT) now) := by unfold twZ; split <;> omega
  refine lv_aload_n hx hb dX7_powerOfTick_0 rfl (lv_at hl 0 rfl) ?_
  refine zc_pi (va_runV (As := []) (rest := []) ⟨hx, hb, hml, hown, hts⟩ (kX7_ticksToWakeup l dC dI cI cJ cZ q pw co la vo cpar fr cdee use run nC tdue tlat twk nT edue elat ewk nE len cnt tin sp pe slp late srv hv av bd sh sc lt rule now st asl idl idn par div dee (by first | assumption | omega) (by first | assumption | omega) (by first | assumption | omega) (by first | assumption | omega) (by first | assumption | omega)) (cwV 0 hts gX7_powerOfTick_X7_ticksToWakeup rfl rfl rfl (by decide +kernel) ⟨Nat.le_of_ble_eq_true rfl, Nat.le_of_ble_eq_true rfl⟩) (zqV hK hP [0, 1, 2, 3, 4, 5, 6, 7, 8, 9, 10, 11, 12, 13, 14, 15, 16, 17, 18, 19, 20, 21, 22, 23, 24, 25, 26, 27, 28] rfl 0 rfl rfl) rfl rfl hl.1 rfl (lv_room (Nat.le_of_ble_eq_true rfl)) dX7_powerOfTick_1 ⟨Nat.le_of_ble_eq_true rfl, Nat.le_of_ble_eq_true rfl⟩) ?_
  refine lv_aload_n hx hb dX7_powerOfTick_4 rfl (lv_at hl 0 rfl) ?_
  refine va_get (D := (dC, dI)) (ci := 7) (v := .ref (q 1)) (C := RX7) (T := TX7) (N := 13) hx hb hts hinX7 hown hK.1 hP 0 rfl rfl 0 (by decide) (hts _ (List.mem_of_getElem? (i := 1) rfl)) (fun _ h9 => h9) rfl dX7_powerOfTick_5 ?_
  refine lv_aload_n hx hb dX7_powerOfTick_8 rfl (lv_at hl 0 rfl) ?_
  refine va_get (D := (dC, dI)) (ci := 7) (v := .int (iI st)) (C := RX7) (T := TX7) (N := 13) hx hb hts hinX7 hown hK.1 hP 0 rfl rfl 11 (by decide) (hts _ (List.mem_of_getElem? (i := 2) rfl)) (fun _ h9 => h9) rfl dX7_powerOfTick_9 ?_
  refine zc_pi (va_runV (As := [.int (iI st)]) (rest := [.int (iI (twZ (nxZ tlat nT) now))]) ⟨hx, hb, hml, hown, hts⟩ (kX6_latencyOf l dC dI cI cJ cZ (q 1) (q 2) (q 3) (q 4) pw co la st (by first | assumption | omega)) (cwV 1 hts gX7_powerOfTick_X6_latencyOf rfl rfl rfl (by decide +kernel) ⟨Nat.le_of_ble_eq_true rfl, Nat.le_of_ble_eq_true rfl⟩) (zqV hK hP [1, 2, 3, 4] rfl 1 rfl rfl) rfl rfl hl.1 rfl (lv_room (Nat.le_of_ble_eq_true rfl)) dX7_powerOfTick_12 ⟨Nat.le_of_ble_eq_true rfl, Nat.le_of_ble_eq_true rfl⟩) ?_
  refine zi_cgt (tgt := 22) hx hb (by omega) (by omega) dX7_powerOfTick_15 (by decide) (fun c_1 => ?_) (fun c_1 => ?_)
  · skip
    refine lv_iconst (v := iI 0) hx hb dX7_powerOfTick_22 rfl ?_
    refine lv_istore_n (lv' := [(1, .int (iI 0)), (0, .ref (q 0))]) hx hb dX7_powerOfTick_23 rfl hl (by decide) rfl (fun ls hl => ?_)
    refine lv_aload_n hx hb dX7_powerOfTick_24 rfl (lv_at hl 1 rfl) ?_
    refine va_get (D := (dC, dI)) (ci := 7) (v := .ref (q 1)) (C := RX7) (T := TX7) (N := 13) hx hb hts hinX7 hown hK.1 hP 0 rfl rfl 0 (by decide) (hts _ (List.mem_of_getElem? (i := 1) rfl)) (fun _ h9 => h9) rfl dX7_powerOfTick_25 ?_
    refine lv_iload_n hx hb dX7_powerOfTick_28 rfl (lv_at hl 0 rfl) ?_
    refine zi_feq (tgt := 36) hx hb (by decide) dX7_powerOfTick_29 (by decide) (fun c_2 => ?_) (fun c_2 => ?_)
    · skip
      refine lv_aload_n hx hb dX7_powerOfTick_36 rfl (lv_at hl 1 rfl) ?_
      refine va_get (D := (dC, dI)) (ci := 7) (v := .int (iI st)) (C := RX7) (T := TX7) (N := 13) hx hb hts hinX7 hown hK.1 hP 0 rfl rfl 11 (by decide) (hts _ (List.mem_of_getElem? (i := 2) rfl)) (fun _ h9 => h9) rfl dX7_powerOfTick_37 ?_
      refine zc_pi (va_runV (As := [.int (iI st)]) (rest := []) ⟨hx, hb, hml, hown, hts⟩ (kX6_powerOf l dC dI cI cJ cZ (q 1) (q 2) (q 3) (q 4) pw co la st (by first | assumption | omega)) (cwV 1 hts gX7_powerOfTick_X6_powerOf rfl rfl rfl (by decide +kernel) ⟨Nat.le_of_ble_eq_true rfl, Nat.le_of_ble_eq_true rfl⟩) (zqV hK hP [1, 2, 3, 4] rfl 1 rfl rfl) rfl rfl hl.1 rfl (lv_room (Nat.le_of_ble_eq_true rfl)) dX7_powerOfTick_40 ⟨Nat.le_of_ble_eq_true rfl, Nat.le_of_ble_eq_true rfl⟩) ?_
      subst hQ
      exact zret_pi hx hb hr hlocks dX7_powerOfTick_43 (by unfold poZ; first | (rw [if_pos (by omega)]; done) | (rw [if_neg (by omega)]; done) | (rcases Int.lt_or_le 0 st with h8 | h8; rw [if_pos (by omega)]; rw [if_neg (by omega), show st = 0 by omega]))
    · skip
      exact absurd c_2 (by decide)
  · skip
    refine lv_iconst (v := iI 1) hx hb dX7_powerOfTick_18 rfl ?_
    refine lv_goto (tgt := 23) hx hb dX7_powerOfTick_19 (by decide) ?_
    refine lv_istore_n (lv' := [(1, .int (iI 1)), (0, .ref (q 0))]) hx hb dX7_powerOfTick_23 rfl hl (by decide) rfl (fun ls hl => ?_)
    refine lv_aload_n hx hb dX7_powerOfTick_24 rfl (lv_at hl 1 rfl) ?_
    refine va_get (D := (dC, dI)) (ci := 7) (v := .ref (q 1)) (C := RX7) (T := TX7) (N := 13) hx hb hts hinX7 hown hK.1 hP 0 rfl rfl 0 (by decide) (hts _ (List.mem_of_getElem? (i := 1) rfl)) (fun _ h9 => h9) rfl dX7_powerOfTick_25 ?_
    refine lv_iload_n hx hb dX7_powerOfTick_28 rfl (lv_at hl 0 rfl) ?_
    refine zi_feq (tgt := 36) hx hb (by decide) dX7_powerOfTick_29 (by decide) (fun c_3 => ?_) (fun c_3 => ?_)
    · skip
      exact absurd c_3 (by decide)
    · skip
      refine lv_iconst (v := iI 0) hx hb dX7_powerOfTick_32 rfl ?_
      refine lv_goto (tgt := 40) hx hb dX7_powerOfTick_33 (by decide) ?_
      refine zc_pi (va_runV (As := [.int (iI 0)]) (rest := []) ⟨hx, hb, hml, hown, hts⟩ (kX6_powerOf l dC dI cI cJ cZ (q 1) (q 2) (q 3) (q 4) pw co la 0 (by first | assumption | omega)) (cwV 1 hts gX7_powerOfTick_X6_powerOf rfl rfl rfl (by decide +kernel) ⟨Nat.le_of_ble_eq_true rfl, Nat.le_of_ble_eq_true rfl⟩) (zqV hK hP [1, 2, 3, 4] rfl 1 rfl rfl) rfl rfl hl.1 rfl (lv_room (Nat.le_of_ble_eq_true rfl)) dX7_powerOfTick_40 ⟨Nat.le_of_ble_eq_true rfl, Nat.le_of_ble_eq_true rfl⟩) ?_
      subst hQ
      exact zret_pi hx hb hr hlocks dX7_powerOfTick_43 (by unfold poZ; first | (rw [if_pos (by omega)]; done) | (rw [if_neg (by omega)]; done) | (rcases Int.lt_or_le 0 st with h8 | h8; rw [if_pos (by omega)]; rw [if_neg (by omega), show st = 0 by omega]))
def rmX7_depth : Room := { frames := 3, cells := 0, slots := 0, locals := 64 }
set_option maxRecDepth 100000 in
set_option maxHeartbeats 4000000 in
theorem kX7_depth (l : Launch) (dC : Nat → ClassId) (dI : Nat → Nat → Nat) (cI cJ cZ : ClassId) (q : Nat → Nat)  (pw : Int → Int) (co : Int → Int) (la : Int → Int) (vo : Int → Int) (cpar : Int → Int) (fr : Int → Int) (cdee : Int → Int) (use : Int → Int) (run : Int → Int) (nC : Int) (tdue : Int → Int) (tlat : Int → Int) (twk : Int → Int) (nT : Int) (edue : Int → Int) (elat : Int → Int) (ewk : Int → Int) (nE : Int) (len : Int → Int) (cnt : Int) (tin : Int → Int) (sp : Int) (pe : Int) (slp : Int) (late : Int) (srv : Int) (hv : Int → Int) (av : Int) (bd : Int) (sh : Int) (sc : Int → Int) (lt : Int → Int) (rule : Int) (now : Int) (st : Int) (asl : Int) (idl : Int → Int) (idn : Int) (par : Int → Int) (div : Int → Int) (dee : Int → Int) (hnC : 1 ≤ nC ∧ nC ≤ 8) (hcp : ∀ c : Int, 1 ≤ c → c < nC → 0 ≤ cpar c ∧ cpar c < c) (huse : rgZ use 8 9) (hrun : tfZ run) (hcd : rgZ cdee 8 3) (hvo : rgZ vo 6 3) (hpp : ∀ c : Int, 1 ≤ c → c < nC → par c = cpar c) (hdd : ∀ c : Int, 1 ≤ c → c < nC → dee c = cdee c) (hd0 : cdee 0 = 3) : zMi l yX7_depth wsX7_depth rmX7_depth (dC, dI) (zT cI cJ cZ) (wP cI cJ cZ q pw co la vo cpar fr cdee use run nC tdue tlat twk nT edue elat ewk nE len cnt tin sp pe slp late srv hv av bd sh sc lt rule now st asl idl idn par div dee) [.ref (q 0)] (fun (r9 : Int) (_ : Unit) => r9 = dzM vo par dee use nC) (fun _ : Unit => wP cI cJ cZ q pw co la vo cpar fr cdee use (rnZ cpar (nC - 1) (r0Z use nC run)) nC tdue tlat twk nT edue elat ewk nE len cnt tin sp pe slp late srv hv av bd sh sc lt rule now st asl idl idn par div dee) 0 0 := by
  refine zent_i (cc := cX7_depth) (maxL := 3) (ret := (some .int)) (by decide +kernel) rfl (Nat.le_of_ble_eq_true rfl) ?_
  intro p e s m below meth c A ls hE hP hK hA hD hS hl
  obtain ⟨hx, hb, hr, hml, hown, hts, hlocks, hmn⟩ := hE
  have hinX7 : ∀ w ∈ u_ws RX7 TX7 13, w ∈ wsX7_depth := by decide +kernel
  have hinX1 : ∀ w ∈ u_ws RX1 TX1 6, w ∈ wsX7_depth := by decide +kernel
  have hl : lv_has ls 3 [(0, .ref (q 0))] := hl
  refine z_gen (fun Q hQ => ?_)
  refine lv_aload_n hx hb dX7_depth_0 rfl (lv_at hl 0 rfl) ?_
  refine va_get (D := (dC, dI)) (ci := 7) (v := .ref (q 6)) (C := RX7) (T := TX7) (N := 13) hx hb hts hinX7 hown hK.1 hP 0 rfl rfl 2 (by decide) (hts _ (List.mem_of_getElem? (i := 1) rfl)) (fun _ h9 => h9) rfl dX7_depth_1 ?_
  refine zc_i (va_runV (As := []) (rest := []) ⟨hx, hb, hml, hown, hts⟩ (kX1_leastDeepest l dC dI cI cJ cZ (q 6) (q 7) (q 8) (q 9) (q 10) (q 11) cpar fr cdee use run nC (by first | assumption | omega) (by first | assumption | omega) (by first | assumption | omega) (by first | assumption | omega) (by first | assumption | omega) s.heap.size) (cwV 0 hts gX7_depth_X1_leastDeepest rfl rfl rfl (by decide +kernel) ⟨Nat.le_of_ble_eq_true rfl, Nat.le_of_ble_eq_true rfl⟩) (zpV hK hP hD [6, 7, 8, 9, 10, 11] rfl rfl 6 rfl rfl) rfl rfl hl.1 rfl (lv_room (Nat.le_of_ble_eq_true rfl)) dX7_depth_4 ⟨Nat.le_of_ble_eq_true rfl, Nat.le_of_ble_eq_true rfl⟩) hP hD hS hA [6, 7, 8, 9, 10, 11] [0, 1, 2, 3, 4, 5, 12, 13, 14, 15, 16, 17, 18, 19, 20, 21, 22, 23, 24, 25, 26, 27, 28] rfl rfl rfl (by decide) (fun v_3 u_2 H locs r_1 hP hD hS => ?_)
  refine ze_i r_1 ?_
  have hP : va_P (dC, dI) vwCl (wP cI cJ cZ q pw co la vo cpar fr cdee use (rnZ cpar (nC - 1) (r0Z use nC run)) nC tdue tlat twk nT edue elat ewk nE len cnt tin sp pe slp late srv hv av bd sh sc lt rule now st asl idl idn par div dee) H := hP.sub [0, 1, 2, 3, 4, 5, 23, 24, 25, 26, 27, 28, 6, 7, 8, 9, 10, 11, 12, 13, 14, 15, 16, 17, 18, 19, 20, 21, 22] (z_fm rfl)
  have hD : va_D A (wP cI cJ cZ q pw co la vo cpar fr cdee use (rnZ cpar (nC - 1) (r0Z use nC run)) nC tdue tlat twk nT edue elat ewk nE len cnt tin sp pe slp late srv hv av bd sh sc lt rule now st asl idl idn par div dee) := hD.sub [0, 1, 2, 3, 4, 5, 23, 24, 25, 26, 27, 28, 6, 7, 8, 9, 10, 11, 12, 13, 14, 15, 16, 17, 18, 19, 20, 21, 22] (by decide) rfl
  refine lv_istore_n (lv' := [(1, .int (iI (ldZ (rnZ cpar (nC - 1) (r0Z use nC run)) cdee nC))), (0, .ref (q 0))]) hx hb dX7_depth_7 rfl hl (by decide) rfl (fun ls hl => ?_)
  refine lv_iconst (v := iI 0) hx hb dX7_depth_8 rfl ?_
  refine lv_istore_n (lv' := [(2, .int (iI 0)), (1, .int (iI (ldZ (rnZ cpar (nC - 1) (r0Z use nC run)) cdee nC))), (0, .ref (q 0))]) hx hb dX7_depth_9 rfl hl (by decide) rfl (fun ls hl => ?_)
  have L10 : ∀ (fuel : Nat) (k : Int) (x : Int), (0 ≤ k ∧ k ≤ 6) → (x = foZ (cvF vo) (ldZ (rnZ cpar (nC - 1) (r0Z use nC run)) cdee nC) k) → ((6 - k).toNat) < fuel → ∀ (H : Heap) (locs : List Loc), va_P (dC, dI) vwCl (wP cI cJ cZ q pw co la vo cpar fr cdee use (rnZ cpar (nC - 1) (r0Z use nC run)) nC tdue tlat twk nT edue elat ewk nE len cnt tin sp pe slp late srv hv av bd sh sc lt rule now st asl idl idn par div dee) H → va_D A (wP cI cJ cZ q pw co la vo cpar fr cdee use (rnZ cpar (nC - 1) (r0Z use nC run)) nC tdue tlat twk nT edue elat ewk nE len cnt tin sp pe slp late srv hv av bd sh sc lt rule now st asl idl idn par div dee) → va_S A s.heap H locs → ∀ ls : Array Slot, lv_has ls 3 [(2, .int (iI k)), (1, .int (iI x)), (0, .ref (q 0))] → W p l e rmX7_depth s m ([.ref (q 0)] : List Value).toArray below meth c H locs 0 0 Q (F0 m 10 ls []) := by
    intro fuel
    induction fuel with
    | zero =>
      intro k x hk hI hmeas H locs hP hD hS ls hl
      exact absurd hmeas (by omega)
    | succ fuel ih =>
      intro k x hk hI hmeas H locs hP hD hS ls hl
      have hx9 : 0 ≤ x ∧ x ≤ 3 := by rw [hI]; exact dzC_r hvo hcd hnC hk
      refine lv_iload_n hx hb dX7_depth_10 rfl (lv_at hl 0 rfl) ?_
      refine lv_aload_n hx hb dX7_depth_11 rfl (lv_at hl 2 rfl) ?_
      refine va_get (D := (dC, dI)) (ci := 7) (v := .ref (q 5)) (C := RX7) (T := TX7) (N := 13) hx hb hts hinX7 hown hK.1 hP 0 rfl rfl 1 (by decide) (hts _ (List.mem_of_getElem? (i := 2) rfl)) (fun _ h9 => h9) rfl dX7_depth_12 ?_
      refine za_len hx hb hK hP 5 0 rfl rfl dX7_depth_15 ?_
      refine zi_cge (tgt := 36) hx hb (by omega) (by decide) dX7_depth_16 (by decide) (fun c_4 => ?_) (fun c_4 => ?_)
      · skip
        refine lv_iload_n hx hb dX7_depth_36 rfl (lv_at hl 1 rfl) ?_
        subst hQ
        exact zret_i (W1 := fun _ : Unit => wP cI cJ cZ q pw co la vo cpar fr cdee use (rnZ cpar (nC - 1) (r0Z use nC run)) nC tdue tlat twk nT edue elat ewk nE len cnt tin sp pe slp late srv hv av bd sh sc lt rule now st asl idl idn par div dee) () hx hb hr hP hD hS hlocks dX7_depth_37 (by (obtain rfl : k = 6 := by omega); rw [hI]; exact dz_cm hnC hcp hpp hdd hd0)
      · skip
        refine lv_iload_n hx hb dX7_depth_19 rfl (lv_at hl 1 rfl) ?_
        refine lv_aload_n hx hb dX7_depth_20 rfl (lv_at hl 2 rfl) ?_
        refine va_get (D := (dC, dI)) (ci := 7) (v := .ref (q 5)) (C := RX7) (T := TX7) (N := 13) hx hb hts hinX7 hown hK.1 hP 0 rfl rfl 1 (by decide) (hts _ (List.mem_of_getElem? (i := 2) rfl)) (fun _ h9 => h9) rfl dX7_depth_21 ?_
        refine lv_iload_n hx hb dX7_depth_24 rfl (lv_at hl 0 rfl) ?_
        refine za_ld hx hb hK hP 5 0 rfl rfl (by omega) (by omega) dX7_depth_25 ?_
        have e_5 := hvo k (by omega) (by omega)
        refine zi_min hx hb (by rw [hml]; exact hl.1.symm) hown (hts _ (List.mem_of_getElem? (i := 3) rfl)) (hts _ (List.mem_of_getElem? (i := 4) rfl)) (hts _ (List.mem_of_getElem? (i := 5) rfl)) (hts _ (List.mem_of_getElem? (i := 6) rfl)) (Nat.le_of_ble_eq_true rfl) (Nat.le_of_ble_eq_true rfl) (Nat.le_of_ble_eq_true rfl) (Nat.le_of_ble_eq_true rfl) (by omega) (by omega) dX7_depth_26 ?_
        refine lv_istore_n (lv' := [(1, .int (iI (min x (vo k)))), (2, .int (iI k)), (0, .ref (q 0))]) hx hb dX7_depth_29 rfl hl (by decide) rfl (fun ls hl => ?_)
        refine lv_iinc (v := iI (k + 1)) (lv' := [(2, .int (iI (k + 1))), (1, .int (iI (min x (vo k)))), (0, .ref (q 0))]) hx hb dX7_depth_30 hl (k := 1) rfl (iI_add _ _) (by decide) rfl (fun ls hl => ?_)
        refine lv_goto (tgt := 10) hx hb dX7_depth_33 (by decide) ?_
        exact ih (k + 1) (min x (vo k)) (by omega) (by rw [foZ_s _ _ (by omega), ← hI]; rfl) (by omega) H locs hP hD hS ls (lv_sub hl [0, 1, 2] rfl)
  exact L10 (_ + 1) 0 (ldZ (rnZ cpar (nC - 1) (r0Z use nC run)) cdee nC) (by omega) (rfl) (Nat.lt_succ_self _) H locs hP hD hS ls (lv_sub hl [0, 1, 2] rfl)
def rmX7_chooseState : Room := { frames := 4, cells := 0, slots := 0, locals := 89 }
set_option maxRecDepth 100000 in
set_option maxHeartbeats 4000000 in
theorem kX7_chooseState (l : Launch) (dC : Nat → ClassId) (dI : Nat → Nat → Nat) (cI cJ cZ : ClassId) (q : Nat → Nat)  (pw : Int → Int) (co : Int → Int) (la : Int → Int) (vo : Int → Int) (cpar : Int → Int) (fr : Int → Int) (cdee : Int → Int) (use : Int → Int) (run : Int → Int) (nC : Int) (tdue : Int → Int) (tlat : Int → Int) (twk : Int → Int) (nT : Int) (edue : Int → Int) (elat : Int → Int) (ewk : Int → Int) (nE : Int) (len : Int → Int) (cnt : Int) (tin : Int → Int) (sp : Int) (pe : Int) (slp : Int) (late : Int) (srv : Int) (hv : Int → Int) (av : Int) (bd : Int) (sh : Int) (sc : Int → Int) (lt : Int → Int) (rule : Int) (now : Int) (st : Int) (asl : Int) (idl : Int → Int) (idn : Int) (par : Int → Int) (div : Int → Int) (dee : Int → Int) (hnC : 1 ≤ nC ∧ nC ≤ 8) (hcp : ∀ c : Int, 1 ≤ c → c < nC → 0 ≤ cpar c ∧ cpar c < c) (huse : rgZ use 8 9) (hrun : tfZ run) (hcd : rgZ cdee 8 3) (hvo : rgZ vo 6 3) (hpp : ∀ c : Int, 1 ≤ c → c < nC → par c = cpar c) (hdd : ∀ c : Int, 1 ≤ c → c < nC → dee c = cdee c) (hd0 : cdee 0 = 3) (hde : rgZ dee 8 3) (hrl : 0 ≤ rule ∧ rule ≤ 2) (hpw : rgZ pw 4 1000) (hco : rgZ co 4 10000) (hla : rgZ la 4 100) (hnow : 0 ≤ now ∧ now ≤ 200000) (hnT : 0 ≤ nT ∧ nT ≤ 12) (htd : rgZ tdue 12 1000000) (htl : rgZ tlat 12 1000000) (htw : rgZ twk 12 50) (hid : idR len cnt idl idn) : zMi l yX7_chooseState wsX7_chooseState rmX7_chooseState (dC, dI) (zT cI cJ cZ) (wP cI cJ cZ q pw co la vo cpar fr cdee use run nC tdue tlat twk nT edue elat ewk nE len cnt tin sp pe slp late srv hv av bd sh sc lt rule now st asl idl idn par div dee) [.ref (q 0)] (fun (r9 : Int) (_ : Unit) => r9 = chZ pw co la rule (dzM vo par dee use nC) (nxZ tlat nT - now) (meM idl idn)) (fun _ : Unit => wP cI cJ cZ q pw co la vo cpar fr cdee use (rnZ cpar (nC - 1) (r0Z use nC run)) nC tdue tlat twk nT edue elat ewk nE len cnt tin sp pe slp late srv hv av bd sh sc lt rule now st asl idl idn par div dee) 0 0 := by
  refine zent_i (cc := cX7_chooseState) (maxL := 2) (ret := (some .int)) (by decide +kernel) rfl (Nat.le_of_ble_eq_true rfl) ?_
  intro p e s m below meth c A ls hE hP hK hA hD hS hl
  obtain ⟨hx, hb, hr, hml, hown, hts, hlocks, hmn⟩ := hE
  have hinX7 : ∀ w ∈ u_ws RX7 TX7 13, w ∈ wsX7_chooseState := by decide +kernel
  have hinX2 : ∀ w ∈ u_ws RX2 TX2 2, w ∈ wsX7_chooseState := by decide +kernel
  have hinX3 : ∀ w ∈ u_ws RX3 TX3 4, w ∈ wsX7_chooseState := by decide +kernel
  have hinX1 : ∀ w ∈ u_ws RX1 TX1 6, w ∈ wsX7_chooseState := by decide +kernel
  have hinX6 : ∀ w ∈ u_ws RX6 TX6 3, w ∈ wsX7_chooseState := by decide +kernel
  have hl : lv_has ls 2 [(0, .ref (q 0))] := hl
  refine z_gen (fun Q hQ => ?_)
  have hn9 := nx_r htl hnT
  have hcnt : 0 ≤ cnt ∧ cnt ≤ 4 := by have := hid.1; have := hid.2.1; omega
  have hlen := hid.2.2.1
  have hme := me_eq hid
  have hmr := me_r hlen hcnt
  have hdz := dzM_r (par := par) (use := use) hvo hde hnC
  have ht8 : 0 ≤ twZ (nxZ tlat nT) now + 200000 ∧ twZ (nxZ tlat nT) now ≤ 1000000000 := by unfold twZ; split <;> omega
  have ht9 : ∀ z : Int, z ≤ 5000 → (z ≤ twZ (nxZ tlat nT) now ↔ z ≤ nxZ tlat nT - now) := by intro z hz; unfold twZ; split <;> omega
  refine lv_aload_n hx hb dX7_chooseState_0 rfl (lv_at hl 0 rfl) ?_
  refine zc_pi (va_runV (As := []) (rest := []) ⟨hx, hb, hml, hown, hts⟩ (kX7_ticksToWakeup l dC dI cI cJ cZ q pw co la vo cpar fr cdee use run nC tdue tlat twk nT edue elat ewk nE len cnt tin sp pe slp late srv hv av bd sh sc lt rule now st asl idl idn par div dee (by first | assumption | omega) (by first | assumption | omega) (by first | assumption | omega) (by first | assumption | omega) (by first | assumption | omega)) (cwV 0 hts gX7_chooseState_X7_ticksToWakeup rfl rfl rfl (by decide +kernel) ⟨Nat.le_of_ble_eq_true rfl, Nat.le_of_ble_eq_true rfl⟩) (zqV hK hP [0, 1, 2, 3, 4, 5, 6, 7, 8, 9, 10, 11, 12, 13, 14, 15, 16, 17, 18, 19, 20, 21, 22, 23, 24, 25, 26, 27, 28] rfl 0 rfl rfl) rfl rfl hl.1 rfl (lv_room (Nat.le_of_ble_eq_true rfl)) dX7_chooseState_1 ⟨Nat.le_of_ble_eq_true rfl, Nat.le_of_ble_eq_true rfl⟩) ?_
  refine lv_istore_n (lv' := [(1, .int (iI (twZ (nxZ tlat nT) now))), (0, .ref (q 0))]) hx hb dX7_chooseState_4 rfl hl (by decide) rfl (fun ls hl => ?_)
  refine lv_aload_n hx hb dX7_chooseState_5 rfl (lv_at hl 1 rfl) ?_
  refine va_get (D := (dC, dI)) (ci := 7) (v := .int (iI rule)) (C := RX7) (T := TX7) (N := 13) hx hb hts hinX7 hown hK.1 hP 0 rfl rfl 9 (by decide) (hts _ (List.mem_of_getElem? (i := 1) rfl)) (fun _ h9 => h9) rfl dX7_chooseState_6 ?_
  refine zi_fne (tgt := 25) hx hb (by omega) dX7_chooseState_9 (by decide) (fun c_1 => ?_) (fun c_1 => ?_)
  · skip
    refine lv_aload_n hx hb dX7_chooseState_25 rfl (lv_at hl 1 rfl) ?_
    refine va_get (D := (dC, dI)) (ci := 7) (v := .int (iI rule)) (C := RX7) (T := TX7) (N := 13) hx hb hts hinX7 hown hK.1 hP 0 rfl rfl 9 (by decide) (hts _ (List.mem_of_getElem? (i := 1) rfl)) (fun _ h9 => h9) rfl dX7_chooseState_26 ?_
    refine lv_iconst (v := iI 2) hx hb dX7_chooseState_29 rfl ?_
    refine zi_cne (tgt := 55) hx hb (by omega) (by decide) dX7_chooseState_30 (by decide) (fun c_2 => ?_) (fun c_2 => ?_)
    · skip
      refine lv_aload_n hx hb dX7_chooseState_55 rfl (lv_at hl 1 rfl) ?_
      refine va_get (D := (dC, dI)) (ci := 7) (v := .ref (q 1)) (C := RX7) (T := TX7) (N := 13) hx hb hts hinX7 hown hK.1 hP 0 rfl rfl 0 (by decide) (hts _ (List.mem_of_getElem? (i := 2) rfl)) (fun _ h9 => h9) rfl dX7_chooseState_56 ?_
      refine lv_aload_n hx hb dX7_chooseState_59 rfl (lv_at hl 1 rfl) ?_
      refine zc_i (va_runV (As := []) (rest := [.ref (q 1)]) ⟨hx, hb, hml, hown, hts⟩ (kX7_depth l dC dI cI cJ cZ q pw co la vo cpar fr cdee use run nC tdue tlat twk nT edue elat ewk nE len cnt tin sp pe slp late srv hv av bd sh sc lt rule now st asl idl idn par div dee (by first | assumption | omega) (by first | assumption | omega) (by first | assumption | omega) (by first | assumption | omega) (by first | assumption | omega) (by first | assumption | omega) (by first | assumption | omega) (by first | assumption | omega) (by first | assumption | omega) s.heap.size) (cwV 0 hts gX7_chooseState_X7_depth rfl rfl rfl (by decide +kernel) ⟨Nat.le_of_ble_eq_true rfl, Nat.le_of_ble_eq_true rfl⟩) (zpV hK hP hD [0, 1, 2, 3, 4, 5, 6, 7, 8, 9, 10, 11, 12, 13, 14, 15, 16, 17, 18, 19, 20, 21, 22, 23, 24, 25, 26, 27, 28] rfl rfl 0 rfl rfl) rfl rfl hl.1 rfl (lv_room (Nat.le_of_ble_eq_true rfl)) dX7_chooseState_60 ⟨Nat.le_of_ble_eq_true rfl, Nat.le_of_ble_eq_true rfl⟩) hP hD hS hA [0, 1, 2, 3, 4, 5, 6, 7, 8, 9, 10, 11, 12, 13, 14, 15, 16, 17, 18, 19, 20, 21, 22, 23, 24, 25, 26, 27, 28] [] rfl rfl rfl (by decide) (fun v_5 u_4 H locs r_3 hP hD hS => ?_)
      refine ze_i r_3 ?_
      have hP : va_P (dC, dI) vwCl (wP cI cJ cZ q pw co la vo cpar fr cdee use (rnZ cpar (nC - 1) (r0Z use nC run)) nC tdue tlat twk nT edue elat ewk nE len cnt tin sp pe slp late srv hv av bd sh sc lt rule now st asl idl idn par div dee) H := hP
      have hD : va_D A (wP cI cJ cZ q pw co la vo cpar fr cdee use (rnZ cpar (nC - 1) (r0Z use nC run)) nC tdue tlat twk nT edue elat ewk nE len cnt tin sp pe slp late srv hv av bd sh sc lt rule now st asl idl idn par div dee) := hD
      refine lv_iload_n hx hb dX7_chooseState_63 rfl (lv_at hl 0 rfl) ?_
      refine zc_pi (va_runV (As := [.int (iI (dzM vo par dee use nC)), .int (iI (twZ (nxZ tlat nT) now))]) (rest := []) ⟨hx, hb, hml, hown, hts⟩ (kX6_deepestWorthwhile l dC dI cI cJ cZ (q 1) (q 2) (q 3) (q 4) pw co la (dzM vo par dee use nC) (twZ (nxZ tlat nT) now) (by first | assumption | omega) (by first | assumption | omega) (by first | assumption | omega) (by first | assumption | omega) (by first | assumption | omega)) (cwV 2 hts gX7_chooseState_X6_deepestWorthwhile rfl rfl rfl (by decide +kernel) ⟨Nat.le_of_ble_eq_true rfl, Nat.le_of_ble_eq_true rfl⟩) (zqV hK hP [1, 2, 3, 4] rfl 1 rfl rfl) rfl rfl hl.1 rfl (lv_room (Nat.le_of_ble_eq_true rfl)) dX7_chooseState_64 ⟨Nat.le_of_ble_eq_true rfl, Nat.le_of_ble_eq_true rfl⟩) ?_
      subst hQ
      exact zret_i (W1 := fun _ : Unit => wP cI cJ cZ q pw co la vo cpar fr cdee use (rnZ cpar (nC - 1) (r0Z use nC run)) nC tdue tlat twk nT edue elat ewk nE len cnt tin sp pe slp late srv hv av bd sh sc lt rule now st asl idl idn par div dee) () hx hb hr hP hD hS hlocks dX7_chooseState_67 (by unfold chZ; rw [if_neg (by omega)]; refine dp_c (fun s9 h1 h2 => ?_); have he := evA_r (pw := pw) (s := s9) hco hla (by omega); have h5 := ht9 (evA pw co la s9) he.2; have h6 : cnt ≤ 0 → meM idl idn = 1000000000 := (fun hz => by rw [← hme]; exact if_pos hz); show (evA pw co la s9 ≠ -1 ∧ evA pw co la s9 ≤ _) ↔ (evA pw co la s9 ≠ -1 ∧ evA pw co la s9 ≤ _ ∧ (rule = 1 ∨ evA pw co la s9 ≤ _)); omega)
    · skip
      refine lv_aload_n hx hb dX7_chooseState_33 rfl (lv_at hl 1 rfl) ?_
      refine va_get (D := (dC, dI)) (ci := 7) (v := .ref (q 20)) (C := RX7) (T := TX7) (N := 13) hx hb hts hinX7 hown hK.1 hP 0 rfl rfl 5 (by decide) (hts _ (List.mem_of_getElem? (i := 3) rfl)) (fun _ h9 => h9) rfl dX7_chooseState_34 ?_
      refine va_getN (D := (dC, dI)) (ci := 2) (v := .int (iI cnt)) (C := RX2) (T := TX2) (N := 2) (host := "SleepPlanner") hx hb hts hinX2 hown hK.1 hP 20 rfl rfl 1 (by decide) (va_Nw.use rfl (hK.2.1 _ (List.mem_of_getElem? (i := 9) rfl))) (fun _ h9 => h9) rfl dX7_chooseState_37 ?_
      refine zi_fle (tgt := 55) hx hb (by omega) dX7_chooseState_40 (by decide) (fun c_6 => ?_) (fun c_6 => ?_)
      · skip
        refine lv_aload_n hx hb dX7_chooseState_55 rfl (lv_at hl 1 rfl) ?_
        refine va_get (D := (dC, dI)) (ci := 7) (v := .ref (q 1)) (C := RX7) (T := TX7) (N := 13) hx hb hts hinX7 hown hK.1 hP 0 rfl rfl 0 (by decide) (hts _ (List.mem_of_getElem? (i := 2) rfl)) (fun _ h9 => h9) rfl dX7_chooseState_56 ?_
        refine lv_aload_n hx hb dX7_chooseState_59 rfl (lv_at hl 1 rfl) ?_
        refine zc_i (va_runV (As := []) (rest := [.ref (q 1)]) ⟨hx, hb, hml, hown, hts⟩ (kX7_depth l dC dI cI cJ cZ q pw co la vo cpar fr cdee use run nC tdue tlat twk nT edue elat ewk nE len cnt tin sp pe slp late srv hv av bd sh sc lt rule now st asl idl idn par div dee (by first | assumption | omega) (by first | assumption | omega) (by first | assumption | omega) (by first | assumption | omega) (by first | assumption | omega) (by first | assumption | omega) (by first | assumption | omega) (by first | assumption | omega) (by first | assumption | omega) s.heap.size) (cwV 0 hts gX7_chooseState_X7_depth rfl rfl rfl (by decide +kernel) ⟨Nat.le_of_ble_eq_true rfl, Nat.le_of_ble_eq_true rfl⟩) (zpV hK hP hD [0, 1, 2, 3, 4, 5, 6, 7, 8, 9, 10, 11, 12, 13, 14, 15, 16, 17, 18, 19, 20, 21, 22, 23, 24, 25, 26, 27, 28] rfl rfl 0 rfl rfl) rfl rfl hl.1 rfl (lv_room (Nat.le_of_ble_eq_true rfl)) dX7_chooseState_60 ⟨Nat.le_of_ble_eq_true rfl, Nat.le_of_ble_eq_true rfl⟩) hP hD hS hA [0, 1, 2, 3, 4, 5, 6, 7, 8, 9, 10, 11, 12, 13, 14, 15, 16, 17, 18, 19, 20, 21, 22, 23, 24, 25, 26, 27, 28] [] rfl rfl rfl (by decide) (fun v_9 u_8 H locs r_7 hP hD hS => ?_)
        refine ze_i r_7 ?_
        have hP : va_P (dC, dI) vwCl (wP cI cJ cZ q pw co la vo cpar fr cdee use (rnZ cpar (nC - 1) (r0Z use nC run)) nC tdue tlat twk nT edue elat ewk nE len cnt tin sp pe slp late srv hv av bd sh sc lt rule now st asl idl idn par div dee) H := hP
        have hD : va_D A (wP cI cJ cZ q pw co la vo cpar fr cdee use (rnZ cpar (nC - 1) (r0Z use nC run)) nC tdue tlat twk nT edue elat ewk nE len cnt tin sp pe slp late srv hv av bd sh sc lt rule now st asl idl idn par div dee) := hD
        refine lv_iload_n hx hb dX7_chooseState_63 rfl (lv_at hl 0 rfl) ?_
        refine zc_pi (va_runV (As := [.int (iI (dzM vo par dee use nC)), .int (iI (twZ (nxZ tlat nT) now))]) (rest := []) ⟨hx, hb, hml, hown, hts⟩ (kX6_deepestWorthwhile l dC dI cI cJ cZ (q 1) (q 2) (q 3) (q 4) pw co la (dzM vo par dee use nC) (twZ (nxZ tlat nT) now) (by first | assumption | omega) (by first | assumption | omega) (by first | assumption | omega) (by first | assumption | omega) (by first | assumption | omega)) (cwV 2 hts gX7_chooseState_X6_deepestWorthwhile rfl rfl rfl (by decide +kernel) ⟨Nat.le_of_ble_eq_true rfl, Nat.le_of_ble_eq_true rfl⟩) (zqV hK hP [1, 2, 3, 4] rfl 1 rfl rfl) rfl rfl hl.1 rfl (lv_room (Nat.le_of_ble_eq_true rfl)) dX7_chooseState_64 ⟨Nat.le_of_ble_eq_true rfl, Nat.le_of_ble_eq_true rfl⟩) ?_
        subst hQ
        exact zret_i (W1 := fun _ : Unit => wP cI cJ cZ q pw co la vo cpar fr cdee use (rnZ cpar (nC - 1) (r0Z use nC run)) nC tdue tlat twk nT edue elat ewk nE len cnt tin sp pe slp late srv hv av bd sh sc lt rule now st asl idl idn par div dee) () hx hb hr hP hD hS hlocks dX7_chooseState_67 (by unfold chZ; rw [if_neg (by omega)]; refine dp_c (fun s9 h1 h2 => ?_); have he := evA_r (pw := pw) (s := s9) hco hla (by omega); have h5 := ht9 (evA pw co la s9) he.2; have h6 : cnt ≤ 0 → meM idl idn = 1000000000 := (fun hz => by rw [← hme]; exact if_pos hz); show (evA pw co la s9 ≠ -1 ∧ evA pw co la s9 ≤ _) ↔ (evA pw co la s9 ≠ -1 ∧ evA pw co la s9 ≤ _ ∧ (rule = 1 ∨ evA pw co la s9 ≤ _)); omega)
      · skip
        refine lv_iload_n hx hb dX7_chooseState_43 rfl (lv_at hl 0 rfl) ?_
        refine lv_aload_n hx hb dX7_chooseState_44 rfl (lv_at hl 1 rfl) ?_
        refine va_get (D := (dC, dI)) (ci := 7) (v := .ref (q 20)) (C := RX7) (T := TX7) (N := 13) hx hb hts hinX7 hown hK.1 hP 0 rfl rfl 5 (by decide) (hts _ (List.mem_of_getElem? (i := 3) rfl)) (fun _ h9 => h9) rfl dX7_chooseState_45 ?_
        refine zc_pi (va_runV (As := []) (rest := [.int (iI (twZ (nxZ tlat nT) now))]) ⟨hx, hb, hml, hown, hts⟩ (kX2_mean l dC dI cI cJ cZ (q 20) (q 21) len cnt (by first | assumption | omega) (by first | assumption | omega)) (cwV 0 hts gX7_chooseState_X2_mean rfl rfl rfl (by decide +kernel) ⟨Nat.le_of_ble_eq_true rfl, Nat.le_of_ble_eq_true rfl⟩) (zqV hK hP [20, 21] rfl 20 rfl rfl) rfl rfl hl.1 rfl (lv_room (Nat.le_of_ble_eq_true rfl)) dX7_chooseState_48 ⟨Nat.le_of_ble_eq_true rfl, Nat.le_of_ble_eq_true rfl⟩) ?_
        refine zi_min hx hb (by rw [hml]; exact hl.1.symm) hown (hts _ (List.mem_of_getElem? (i := 4) rfl)) (hts _ (List.mem_of_getElem? (i := 5) rfl)) (hts _ (List.mem_of_getElem? (i := 6) rfl)) (hts _ (List.mem_of_getElem? (i := 7) rfl)) (Nat.le_of_ble_eq_true rfl) (Nat.le_of_ble_eq_true rfl) (Nat.le_of_ble_eq_true rfl) (Nat.le_of_ble_eq_true rfl) (by omega) (by omega) dX7_chooseState_51 ?_
        refine lv_istore_n (lv' := [(1, .int (iI (min (twZ (nxZ tlat nT) now) (meZ len cnt)))), (0, .ref (q 0))]) hx hb dX7_chooseState_54 rfl hl (by decide) rfl (fun ls hl => ?_)
        refine lv_aload_n hx hb dX7_chooseState_55 rfl (lv_at hl 1 rfl) ?_
        refine va_get (D := (dC, dI)) (ci := 7) (v := .ref (q 1)) (C := RX7) (T := TX7) (N := 13) hx hb hts hinX7 hown hK.1 hP 0 rfl rfl 0 (by decide) (hts _ (List.mem_of_getElem? (i := 2) rfl)) (fun _ h9 => h9) rfl dX7_chooseState_56 ?_
        refine lv_aload_n hx hb dX7_chooseState_59 rfl (lv_at hl 1 rfl) ?_
        refine zc_i (va_runV (As := []) (rest := [.ref (q 1)]) ⟨hx, hb, hml, hown, hts⟩ (kX7_depth l dC dI cI cJ cZ q pw co la vo cpar fr cdee use run nC tdue tlat twk nT edue elat ewk nE len cnt tin sp pe slp late srv hv av bd sh sc lt rule now st asl idl idn par div dee (by first | assumption | omega) (by first | assumption | omega) (by first | assumption | omega) (by first | assumption | omega) (by first | assumption | omega) (by first | assumption | omega) (by first | assumption | omega) (by first | assumption | omega) (by first | assumption | omega) s.heap.size) (cwV 0 hts gX7_chooseState_X7_depth rfl rfl rfl (by decide +kernel) ⟨Nat.le_of_ble_eq_true rfl, Nat.le_of_ble_eq_true rfl⟩) (zpV hK hP hD [0, 1, 2, 3, 4, 5, 6, 7, 8, 9, 10, 11, 12, 13, 14, 15, 16, 17, 18, 19, 20, 21, 22, 23, 24, 25, 26, 27, 28] rfl rfl 0 rfl rfl) rfl rfl hl.1 rfl (lv_room (Nat.le_of_ble_eq_true rfl)) dX7_chooseState_60 ⟨Nat.le_of_ble_eq_true rfl, Nat.le_of_ble_eq_true rfl⟩) hP hD hS hA [0, 1, 2, 3, 4, 5, 6, 7, 8, 9, 10, 11, 12, 13, 14, 15, 16, 17, 18, 19, 20, 21, 22, 23, 24, 25, 26, 27, 28] [] rfl rfl rfl (by decide) (fun v_12 u_11 H locs r_10 hP hD hS => ?_)
        refine ze_i r_10 ?_
        have hP : va_P (dC, dI) vwCl (wP cI cJ cZ q pw co la vo cpar fr cdee use (rnZ cpar (nC - 1) (r0Z use nC run)) nC tdue tlat twk nT edue elat ewk nE len cnt tin sp pe slp late srv hv av bd sh sc lt rule now st asl idl idn par div dee) H := hP
        have hD : va_D A (wP cI cJ cZ q pw co la vo cpar fr cdee use (rnZ cpar (nC - 1) (r0Z use nC run)) nC tdue tlat twk nT edue elat ewk nE len cnt tin sp pe slp late srv hv av bd sh sc lt rule now st asl idl idn par div dee) := hD
        refine lv_iload_n hx hb dX7_chooseState_63 rfl (lv_at hl 0 rfl) ?_
        refine zc_pi (va_runV (As := [.int (iI (dzM vo par dee use nC)), .int (iI (min (twZ (nxZ tlat nT) now) (meZ len cnt)))]) (rest := []) ⟨hx, hb, hml, hown, hts⟩ (kX6_deepestWorthwhile l dC dI cI cJ cZ (q 1) (q 2) (q 3) (q 4) pw co la (dzM vo par dee use nC) (min (twZ (nxZ tlat nT) now) (meZ len cnt)) (by first | assumption | omega) (by first | assumption | omega) (by first | assumption | omega) (by first | assumption | omega) (by first | assumption | omega)) (cwV 2 hts gX7_chooseState_X6_deepestWorthwhile rfl rfl rfl (by decide +kernel) ⟨Nat.le_of_ble_eq_true rfl, Nat.le_of_ble_eq_true rfl⟩) (zqV hK hP [1, 2, 3, 4] rfl 1 rfl rfl) rfl rfl hl.1 rfl (lv_room (Nat.le_of_ble_eq_true rfl)) dX7_chooseState_64 ⟨Nat.le_of_ble_eq_true rfl, Nat.le_of_ble_eq_true rfl⟩) ?_
        subst hQ
        exact zret_i (W1 := fun _ : Unit => wP cI cJ cZ q pw co la vo cpar fr cdee use (rnZ cpar (nC - 1) (r0Z use nC run)) nC tdue tlat twk nT edue elat ewk nE len cnt tin sp pe slp late srv hv av bd sh sc lt rule now st asl idl idn par div dee) () hx hb hr hP hD hS hlocks dX7_chooseState_67 (by unfold chZ; rw [if_neg (by omega)]; refine dp_c (fun s9 h1 h2 => ?_); have he := evA_r (pw := pw) (s := s9) hco hla (by omega); have h5 := ht9 (evA pw co la s9) he.2; have h6 : cnt ≤ 0 → meM idl idn = 1000000000 := (fun hz => by rw [← hme]; exact if_pos hz); show (evA pw co la s9 ≠ -1 ∧ evA pw co la s9 ≤ _) ↔ (evA pw co la s9 ≠ -1 ∧ evA pw co la s9 ≤ _ ∧ (rule = 1 ∨ evA pw co la s9 ≤ _)); omega)
  · skip
    refine lv_aload_n hx hb dX7_chooseState_12 rfl (lv_at hl 1 rfl) ?_
    refine va_get (D := (dC, dI)) (ci := 7) (v := .ref (q 1)) (C := RX7) (T := TX7) (N := 13) hx hb hts hinX7 hown hK.1 hP 0 rfl rfl 0 (by decide) (hts _ (List.mem_of_getElem? (i := 2) rfl)) (fun _ h9 => h9) rfl dX7_chooseState_13 ?_
    refine lv_aload_n hx hb dX7_chooseState_16 rfl (lv_at hl 1 rfl) ?_
    refine zc_i (va_runV (As := []) (rest := [.ref (q 1)]) ⟨hx, hb, hml, hown, hts⟩ (kX7_depth l dC dI cI cJ cZ q pw co la vo cpar fr cdee use run nC tdue tlat twk nT edue elat ewk nE len cnt tin sp pe slp late srv hv av bd sh sc lt rule now st asl idl idn par div dee (by first | assumption | omega) (by first | assumption | omega) (by first | assumption | omega) (by first | assumption | omega) (by first | assumption | omega) (by first | assumption | omega) (by first | assumption | omega) (by first | assumption | omega) (by first | assumption | omega) s.heap.size) (cwV 0 hts gX7_chooseState_X7_depth rfl rfl rfl (by decide +kernel) ⟨Nat.le_of_ble_eq_true rfl, Nat.le_of_ble_eq_true rfl⟩) (zpV hK hP hD [0, 1, 2, 3, 4, 5, 6, 7, 8, 9, 10, 11, 12, 13, 14, 15, 16, 17, 18, 19, 20, 21, 22, 23, 24, 25, 26, 27, 28] rfl rfl 0 rfl rfl) rfl rfl hl.1 rfl (lv_room (Nat.le_of_ble_eq_true rfl)) dX7_chooseState_17 ⟨Nat.le_of_ble_eq_true rfl, Nat.le_of_ble_eq_true rfl⟩) hP hD hS hA [0, 1, 2, 3, 4, 5, 6, 7, 8, 9, 10, 11, 12, 13, 14, 15, 16, 17, 18, 19, 20, 21, 22, 23, 24, 25, 26, 27, 28] [] rfl rfl rfl (by decide) (fun v_15 u_14 H locs r_13 hP hD hS => ?_)
    refine ze_i r_13 ?_
    have hP : va_P (dC, dI) vwCl (wP cI cJ cZ q pw co la vo cpar fr cdee use (rnZ cpar (nC - 1) (r0Z use nC run)) nC tdue tlat twk nT edue elat ewk nE len cnt tin sp pe slp late srv hv av bd sh sc lt rule now st asl idl idn par div dee) H := hP
    have hD : va_D A (wP cI cJ cZ q pw co la vo cpar fr cdee use (rnZ cpar (nC - 1) (r0Z use nC run)) nC tdue tlat twk nT edue elat ewk nE len cnt tin sp pe slp late srv hv av bd sh sc lt rule now st asl idl idn par div dee) := hD
    refine lv_iload_n hx hb dX7_chooseState_20 rfl (lv_at hl 0 rfl) ?_
    refine zc_pi (va_runV (As := [.int (iI (dzM vo par dee use nC)), .int (iI (twZ (nxZ tlat nT) now))]) (rest := []) ⟨hx, hb, hml, hown, hts⟩ (kX6_deepestThatWakes l dC dI cI cJ cZ (q 1) (q 2) (q 3) (q 4) pw co la (dzM vo par dee use nC) (twZ (nxZ tlat nT) now) (by first | assumption | omega) (by first | assumption | omega) (by first | assumption | omega) (by first | assumption | omega) (by first | assumption | omega)) (cwV 2 hts gX7_chooseState_X6_deepestThatWakes rfl rfl rfl (by decide +kernel) ⟨Nat.le_of_ble_eq_true rfl, Nat.le_of_ble_eq_true rfl⟩) (zqV hK hP [1, 2, 3, 4] rfl 1 rfl rfl) rfl rfl hl.1 rfl (lv_room (Nat.le_of_ble_eq_true rfl)) dX7_chooseState_21 ⟨Nat.le_of_ble_eq_true rfl, Nat.le_of_ble_eq_true rfl⟩) ?_
    subst hQ
    exact zret_i (W1 := fun _ : Unit => wP cI cJ cZ q pw co la vo cpar fr cdee use (rnZ cpar (nC - 1) (r0Z use nC run)) nC tdue tlat twk nT edue elat ewk nE len cnt tin sp pe slp late srv hv av bd sh sc lt rule now st asl idl idn par div dee) () hx hb hr hP hD hS hlocks dX7_chooseState_24 (by unfold chZ; rw [if_pos (by omega)]; exact dp_c (fun s9 h1 h2 => ht9 _ (by have := hla s9 (by omega) (by omega); omega)))
