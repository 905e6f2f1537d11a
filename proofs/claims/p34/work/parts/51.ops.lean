def rmX7_setState : Room := { frames := 6, cells := 1, slots := 6, locals := 90 }
set_option maxRecDepth 100000 in
set_option maxHeartbeats 4000000 in
theorem kX7_setState (l : Launch) (dC : Nat → ClassId) (dI : Nat → Nat → Nat) (cI cJ cZ : ClassId) (q : Nat → Nat)  (pw : Int → Int) (co : Int → Int) (la : Int → Int) (vo : Int → Int) (cpar : Int → Int) (fr : Int → Int) (cdee : Int → Int) (use : Int → Int) (run : Int → Int) (nC : Int) (tdue : Int → Int) (tlat : Int → Int) (twk : Int → Int) (nT : Int) (edue : Int → Int) (elat : Int → Int) (ewk : Int → Int) (nE : Int) (len : Int → Int) (cnt : Int) (tin : Int → Int) (sp : Int) (pe : Int) (slp : Int) (late : Int) (srv : Int) (hv : Int → Int) (av : Int) (bd : Int) (sh : Int) (sc : Int → Int) (lt : Int → Int) (rule : Int) (now : Int) (st : Int) (asl : Int) (idl : Int → Int) (idn : Int) (par : Int → Int) (div : Int → Int) (dee : Int → Int) (x1 x2 x3 x4 : Int) (hx1 : zR x1) (hx2 : zR x2) (hx3 : zR x3) (hx4 : zR x4) (hst : 0 ≤ st ∧ st ≤ 3) (hpw : rgZ pw 4 1000) (hco : rgZ co 4 10000) (hla : rgZ la 4 100) (hnow : 0 ≤ now ∧ now ≤ 200000) (hasl : 0 ≤ asl ∧ asl ≤ now) (hid : idR len cnt idl idn) : zXv l yX7_setState wsX7_setState rmX7_setState (dC, dI) (zT cI cJ cZ) (wP cI cJ cZ q pw co la vo cpar fr cdee use run nC tdue tlat twk nT edue elat ewk nE len cnt tin sp pe slp late srv hv av bd sh sc lt rule now st asl idl idn par div dee) [.ref (q 0), .int (iI x1), .int (iI x2), .int (iI x3), .int (iI x4)] (fun (u9 : Int × Int × Int × (Int → Int) × Int × (Int → Int) × Int) => ((1 ≤ x1 ∧ x1 ≤ 3) ∧ (0 ≤ x2 ∧ x2 ≤ 1000) ∧ (0 ≤ x3 ∧ x3 ≤ 10000) ∧ (0 ≤ x4 ∧ x4 ≤ 100)) ∧ ((u9.1), (u9.2.1), (u9.2.2.1), (u9.2.2.2.1), (u9.2.2.2.2.1)) = scF pw la st asl now sp pe idl idn ∧ idR (u9.2.2.2.2.2.1) (u9.2.2.2.2.2.2) (u9.2.2.2.1) (u9.2.2.2.2.1)) (fun u9 : Int × Int × Int × (Int → Int) × Int × (Int → Int) × Int => wP cI cJ cZ q (uZ pw x1 x2) (uZ co x1 x3) (uZ la x1 x4) vo cpar fr cdee use run nC tdue tlat twk nT edue elat ewk nE (u9.2.2.2.2.2.1) (u9.2.2.2.2.2.2) tin (u9.2.1) (u9.2.2.1) slp late srv hv av bd sh sc lt rule now (u9.1) asl (u9.2.2.2.1) (u9.2.2.2.2.1) par div dee) (fun E => E = xA ∧ ¬ ((1 ≤ x1 ∧ x1 ≤ 3) ∧ (0 ≤ x2 ∧ x2 ≤ 1000) ∧ (0 ≤ x3 ∧ x3 ≤ 10000) ∧ (0 ≤ x4 ∧ x4 ≤ 100))) := by
  refine zentx_v (cc := cX7_setState) (maxL := 5) (ret := none) (by decide +kernel) rfl (Nat.le_of_ble_eq_true rfl) ?_
  intro p e s m below meth c A ls htr htab hX hE hP hK hA hD hS hl
  obtain ⟨hx, hb, hr, hml, hown, hts, hlocks, hmn⟩ := hE
  have hinX7 : ∀ w ∈ u_ws RX7 TX7 13, w ∈ wsX7_setState := by decide +kernel
  have hinX6 : ∀ w ∈ u_ws RX6 TX6 3, w ∈ wsX7_setState := by decide +kernel
  have hinX4 : ∀ w ∈ u_ws RX4 TX4 6, w ∈ wsX7_setState := by decide +kernel
  have hinX2 : ∀ w ∈ u_ws RX2 TX2 2, w ∈ wsX7_setState := by decide +kernel
  have hl : lv_has ls 5 [(0, .ref (q 0)), (1, .int (iI x1)), (2, .int (iI x2)), (3, .int (iI x3)), (4, .int (iI x4))] := hl
  refine z_gen (fun Q hQ => ?_)
  refine lv_iload_n hx hb dX7_setState_0 rfl (lv_at hl 1 rfl) ?_
  refine lv_iconst (v := iI 1) hx hb dX7_setState_1 rfl ?_
  refine lv_iconst (v := iI 3) hx hb dX7_setState_2 rfl ?_
  refine zc_pi (va_runS (As := [.int (iI x1), .int (iI 1), .int (iI 3)]) (rest := []) ⟨hx, hb, hml, hown, hts⟩ (kX7_isWithin l dC dI cI cJ cZ x1 1 3 (by first | assumption | omega | exact b2i_01 _) (by first | assumption | omega | exact b2i_01 _) (by first | assumption | omega | exact b2i_01 _)) (va_cwS 3 hts gX7_setState_X7_isWithin rfl rfl rfl (by decide +kernel) ⟨Nat.le_of_ble_eq_true rfl, Nat.le_of_ble_eq_true rfl⟩) (zqS hK hP [] rfl) rfl rfl hl.1 rfl (lv_room (Nat.le_of_ble_eq_true rfl)) dX7_setState_3 ⟨Nat.le_of_ble_eq_true rfl, Nat.le_of_ble_eq_true rfl⟩) ?_
  refine zb_feq (tgt := 42) hx hb dX7_setState_6 (by decide) (fun c_1 => ?_) (fun c_1 => ?_)
  · skip
    subst hQ
    exact zthrow (cls := xA) (text := "state, power, cost or latency is out of range") (ik := 82) (is := 84) (ic := 86) hx hb htr hown hX hS hP hD hA (hl.1.trans hml.symm) htab hlocks hts (by decide +kernel) (by decide +kernel) (List.mem_of_getElem? (i := 1) rfl) (List.mem_of_getElem? (i := 2) rfl) (fun w h => List.mem_cons_of_mem _ (List.mem_append_right _ h)) zx_n1 zx_g1 (List.mem_of_getElem? (i := 0) rfl) dX7_setState_42 dX7_setState_45 dX7_setState_46 dX7_setState_48 dX7_setState_51 (Nat.le_of_ble_eq_true rfl) (Nat.le_of_ble_eq_true rfl) (Nat.le_of_ble_eq_true rfl) (Nat.le_of_ble_eq_true rfl) (by decide) (by decide) (by first | exact ⟨rfl, by omega⟩ | omega)
  · skip
    refine lv_iload_n hx hb dX7_setState_9 rfl (lv_at hl 2 rfl) ?_
    refine lv_iconst (v := iI 0) hx hb dX7_setState_10 rfl ?_
    refine lv_sipush (v := iI 1000) hx hb dX7_setState_11 (by decide) ?_
    refine zc_pi (va_runS (As := [.int (iI x2), .int (iI 0), .int (iI 1000)]) (rest := []) ⟨hx, hb, hml, hown, hts⟩ (kX7_isWithin l dC dI cI cJ cZ x2 0 1000 (by first | assumption | omega | exact b2i_01 _) (by first | assumption | omega | exact b2i_01 _) (by first | assumption | omega | exact b2i_01 _)) (va_cwS 3 hts gX7_setState_X7_isWithin rfl rfl rfl (by decide +kernel) ⟨Nat.le_of_ble_eq_true rfl, Nat.le_of_ble_eq_true rfl⟩) (zqS hK hP [] rfl) rfl rfl hl.1 rfl (lv_room (Nat.le_of_ble_eq_true rfl)) dX7_setState_14 ⟨Nat.le_of_ble_eq_true rfl, Nat.le_of_ble_eq_true rfl⟩) ?_
    refine zb_feq (tgt := 42) hx hb dX7_setState_17 (by decide) (fun c_2 => ?_) (fun c_2 => ?_)
    · skip
      subst hQ
      exact zthrow (cls := xA) (text := "state, power, cost or latency is out of range") (ik := 82) (is := 84) (ic := 86) hx hb htr hown hX hS hP hD hA (hl.1.trans hml.symm) htab hlocks hts (by decide +kernel) (by decide +kernel) (List.mem_of_getElem? (i := 1) rfl) (List.mem_of_getElem? (i := 2) rfl) (fun w h => List.mem_cons_of_mem _ (List.mem_append_right _ h)) zx_n1 zx_g1 (List.mem_of_getElem? (i := 0) rfl) dX7_setState_42 dX7_setState_45 dX7_setState_46 dX7_setState_48 dX7_setState_51 (Nat.le_of_ble_eq_true rfl) (Nat.le_of_ble_eq_true rfl) (Nat.le_of_ble_eq_true rfl) (Nat.le_of_ble_eq_true rfl) (by decide) (by decide) (by first | exact ⟨rfl, by omega⟩ | omega)
    · skip
      refine lv_iload_n hx hb dX7_setState_20 rfl (lv_at hl 3 rfl) ?_
      refine lv_iconst (v := iI 0) hx hb dX7_setState_21 rfl ?_
      refine lv_sipush (v := iI 10000) hx hb dX7_setState_22 (by decide) ?_
      refine zc_pi (va_runS (As := [.int (iI x3), .int (iI 0), .int (iI 10000)]) (rest := []) ⟨hx, hb, hml, hown, hts⟩ (kX7_isWithin l dC dI cI cJ cZ x3 0 10000 (by first | assumption | omega | exact b2i_01 _) (by first | assumption | omega | exact b2i_01 _) (by first | assumption | omega | exact b2i_01 _)) (va_cwS 3 hts gX7_setState_X7_isWithin rfl rfl rfl (by decide +kernel) ⟨Nat.le_of_ble_eq_true rfl, Nat.le_of_ble_eq_true rfl⟩) (zqS hK hP [] rfl) rfl rfl hl.1 rfl (lv_room (Nat.le_of_ble_eq_true rfl)) dX7_setState_25 ⟨Nat.le_of_ble_eq_true rfl, Nat.le_of_ble_eq_true rfl⟩) ?_
      refine zb_feq (tgt := 42) hx hb dX7_setState_28 (by decide) (fun c_3 => ?_) (fun c_3 => ?_)
      · skip
        subst hQ
        exact zthrow (cls := xA) (text := "state, power, cost or latency is out of range") (ik := 82) (is := 84) (ic := 86) hx hb htr hown hX hS hP hD hA (hl.1.trans hml.symm) htab hlocks hts (by decide +kernel) (by decide +kernel) (List.mem_of_getElem? (i := 1) rfl) (List.mem_of_getElem? (i := 2) rfl) (fun w h => List.mem_cons_of_mem _ (List.mem_append_right _ h)) zx_n1 zx_g1 (List.mem_of_getElem? (i := 0) rfl) dX7_setState_42 dX7_setState_45 dX7_setState_46 dX7_setState_48 dX7_setState_51 (Nat.le_of_ble_eq_true rfl) (Nat.le_of_ble_eq_true rfl) (Nat.le_of_ble_eq_true rfl) (Nat.le_of_ble_eq_true rfl) (by decide) (by decide) (by first | exact ⟨rfl, by omega⟩ | omega)
      · skip
        refine lv_iload hx hb dX7_setState_31 (lv_at hl 4 rfl) ?_
        refine lv_iconst (v := iI 0) hx hb dX7_setState_33 rfl ?_
        refine lv_bipush (v := iI 100) hx hb dX7_setState_34 (by decide) ?_
        refine zc_pi (va_runS (As := [.int (iI x4), .int (iI 0), .int (iI 100)]) (rest := []) ⟨hx, hb, hml, hown, hts⟩ (kX7_isWithin l dC dI cI cJ cZ x4 0 100 (by first | assumption | omega | exact b2i_01 _) (by first | assumption | omega | exact b2i_01 _) (by first | assumption | omega | exact b2i_01 _)) (va_cwS 3 hts gX7_setState_X7_isWithin rfl rfl rfl (by decide +kernel) ⟨Nat.le_of_ble_eq_true rfl, Nat.le_of_ble_eq_true rfl⟩) (zqS hK hP [] rfl) rfl rfl hl.1 rfl (lv_room (Nat.le_of_ble_eq_true rfl)) dX7_setState_36 ⟨Nat.le_of_ble_eq_true rfl, Nat.le_of_ble_eq_true rfl⟩) ?_
        refine zb_fne (tgt := 52) hx hb dX7_setState_39 (by decide) (fun c_4 => ?_) (fun c_4 => ?_)
        · skip
          refine lv_aload_n hx hb dX7_setState_52 rfl (lv_at hl 0 rfl) ?_
          refine zc_v (va_runV (As := []) (rest := []) ⟨hx, hb, hml, hown, hts⟩ (kX7_wakeForCall l dC dI cI cJ cZ q pw co la vo cpar fr cdee use run nC tdue tlat twk nT edue elat ewk nE len cnt tin sp pe slp late srv hv av bd sh sc lt rule now st asl idl idn par div dee (by first | assumption | omega | exact b2i_01 _) (by first | assumption | omega | exact b2i_01 _) (by first | assumption | omega | exact b2i_01 _) (by first | assumption | omega | exact b2i_01 _) (by first | assumption | omega | exact b2i_01 _) (by first | assumption | omega | exact b2i_01 _) (by first | assumption | omega | exact b2i_01 _) s.heap.size) (cwV 0 hts gX7_setState_X7_wakeForCall rfl rfl rfl (by decide +kernel) ⟨Nat.le_of_ble_eq_true rfl, Nat.le_of_ble_eq_true rfl⟩) (zpV hK hP hD [0, 1, 2, 3, 4, 5, 6, 7, 8, 9, 10, 11, 12, 13, 14, 15, 16, 17, 18, 19, 20, 21, 22, 23, 24, 25, 26, 27, 28] rfl rfl 0 rfl rfl) rfl rfl hl.1 rfl (lv_room (Nat.le_of_ble_eq_true rfl)) dX7_setState_53 ⟨Nat.le_of_ble_eq_true rfl, Nat.le_of_ble_eq_true rfl⟩) hP hD hS hA [0, 1, 2, 3, 4, 5, 6, 7, 8, 9, 10, 11, 12, 13, 14, 15, 16, 17, 18, 19, 20, 21, 22, 23, 24, 25, 26, 27, 28] [] rfl rfl rfl (by decide) (fun u_6 H locs r_5 hP hD hS => ?_)
          obtain ⟨stx_8, spx_9, pex_10, idlx_11, idnx_12, lenx_13, cntx_14⟩ := u_6
          have r_5 : (stx_8, spx_9, pex_10, idlx_11, idnx_12) = scF pw la st asl now sp pe idl idn ∧ idR lenx_13 cntx_14 idlx_11 idnx_12 := r_5
          have hP : va_P (dC, dI) vwCl (wP cI cJ cZ q pw co la vo cpar fr cdee use run nC tdue tlat twk nT edue elat ewk nE lenx_13 cntx_14 tin spx_9 pex_10 slp late srv hv av bd sh sc lt rule now stx_8 asl idlx_11 idnx_12 par div dee) H := hP
          have hD : va_D A (wP cI cJ cZ q pw co la vo cpar fr cdee use run nC tdue tlat twk nT edue elat ewk nE lenx_13 cntx_14 tin spx_9 pex_10 slp late srv hv av bd sh sc lt rule now stx_8 asl idlx_11 idnx_12 par div dee) := hD
          obtain ⟨hsc9, hid9⟩ := r_5
          refine lv_aload_n hx hb dX7_setState_56 rfl (lv_at hl 0 rfl) ?_
          refine va_get (D := (dC, dI)) (ci := 7) (v := .ref (q 1)) (C := RX7) (T := TX7) (N := 13) hx hb hts hinX7 hown hK.1 hP 0 rfl rfl 0 (by decide) (hts _ (List.mem_of_getElem? (i := 3) rfl)) (fun _ h9 => h9) rfl dX7_setState_57 ?_
          refine lv_iload_n hx hb dX7_setState_60 rfl (lv_at hl 1 rfl) ?_
          refine lv_iload_n hx hb dX7_setState_61 rfl (lv_at hl 2 rfl) ?_
          refine lv_iload_n hx hb dX7_setState_62 rfl (lv_at hl 3 rfl) ?_
          refine lv_iload hx hb dX7_setState_63 (lv_at hl 4 rfl) ?_
          refine zc_v (va_runV (As := [.int (iI x1), .int (iI x2), .int (iI x3), .int (iI x4)]) (rest := []) ⟨hx, hb, hml, hown, hts⟩ (kX6_change l dC dI cI cJ cZ (q 1) (q 2) (q 3) (q 4) pw co la x1 x2 x3 x4 (by first | assumption | omega | exact b2i_01 _) H.size) (cwV 4 hts gX7_setState_X6_change rfl rfl rfl (by decide +kernel) ⟨Nat.le_of_ble_eq_true rfl, Nat.le_of_ble_eq_true rfl⟩) (zpV hK hP hD [1, 2, 3, 4] rfl rfl 1 rfl rfl) rfl rfl hl.1 rfl (lv_room (Nat.le_of_ble_eq_true rfl)) dX7_setState_65 ⟨Nat.le_of_ble_eq_true rfl, Nat.le_of_ble_eq_true rfl⟩) hP hD hS hA [1, 2, 3, 4] [0, 5, 6, 7, 8, 9, 10, 11, 12, 13, 14, 15, 16, 17, 18, 19, 20, 21, 22, 23, 24, 25, 26, 27, 28] rfl rfl rfl (by decide) (fun u_16 H locs r_15 hP hD hS => ?_)
          have hP : va_P (dC, dI) vwCl (wP cI cJ cZ q (uZ pw x1 x2) (uZ co x1 x3) (uZ la x1 x4) vo cpar fr cdee use run nC tdue tlat twk nT edue elat ewk nE lenx_13 cntx_14 tin spx_9 pex_10 slp late srv hv av bd sh sc lt rule now stx_8 asl idlx_11 idnx_12 par div dee) H := hP.sub [0, 25, 26, 27, 28, 1, 2, 3, 4, 5, 6, 7, 8, 9, 10, 11, 12, 13, 14, 15, 16, 17, 18, 19, 20, 21, 22, 23, 24] (z_fm rfl)
          have hD : va_D A (wP cI cJ cZ q (uZ pw x1 x2) (uZ co x1 x3) (uZ la x1 x4) vo cpar fr cdee use run nC tdue tlat twk nT edue elat ewk nE lenx_13 cntx_14 tin spx_9 pex_10 slp late srv hv av bd sh sc lt rule now stx_8 asl idlx_11 idnx_12 par div dee) := hD.sub [0, 25, 26, 27, 28, 1, 2, 3, 4, 5, 6, 7, 8, 9, 10, 11, 12, 13, 14, 15, 16, 17, 18, 19, 20, 21, 22, 23, 24] (by decide) rfl
          subst hQ
          refine vx_ret ?_
          refine W.widen (k := 1) (n := 6) (by decide) (by decide) ?_
          exact zret_v (W1 := fun u9 : Int × Int × Int × (Int → Int) × Int × (Int → Int) × Int => wP cI cJ cZ q (uZ pw x1 x2) (uZ co x1 x3) (uZ la x1 x4) vo cpar fr cdee use run nC tdue tlat twk nT edue elat ewk nE (u9.2.2.2.2.2.1) (u9.2.2.2.2.2.2) tin (u9.2.1) (u9.2.2.1) slp late srv hv av bd sh sc lt rule now (u9.1) asl (u9.2.2.2.1) (u9.2.2.2.2.1) par div dee) (stx_8, spx_9, pex_10, idlx_11, idnx_12, lenx_13, cntx_14) hx hb hr hP hD hS hlocks dX7_setState_68 (by exact ⟨by omega, hsc9, hid9⟩)
        · skip
          subst hQ
          exact zthrow (cls := xA) (text := "state, power, cost or latency is out of range") (ik := 82) (is := 84) (ic := 86) hx hb htr hown hX hS hP hD hA (hl.1.trans hml.symm) htab hlocks hts (by decide +kernel) (by decide +kernel) (List.mem_of_getElem? (i := 1) rfl) (List.mem_of_getElem? (i := 2) rfl) (fun w h => List.mem_cons_of_mem _ (List.mem_append_right _ h)) zx_n1 zx_g1 (List.mem_of_getElem? (i := 0) rfl) dX7_setState_42 dX7_setState_45 dX7_setState_46 dX7_setState_48 dX7_setState_51 (Nat.le_of_ble_eq_true rfl) (Nat.le_of_ble_eq_true rfl) (Nat.le_of_ble_eq_true rfl) (Nat.le_of_ble_eq_true rfl) (by decide) (by decide) (by first | exact ⟨rfl, by omega⟩ | omega)
def rmX7_setAwake : Room := { frames := 6, cells := 1, slots := 6, locals := 90 }
set_option maxRecDepth 100000 in
set_option maxHeartbeats 4000000 in
theorem kX7_setAwake (l : Launch) (dC : Nat → ClassId) (dI : Nat → Nat → Nat) (cI cJ cZ : ClassId) (q : Nat → Nat)  (pw : Int → Int) (co : Int → Int) (la : Int → Int) (vo : Int → Int) (cpar : Int → Int) (fr : Int → Int) (cdee : Int → Int) (use : Int → Int) (run : Int → Int) (nC : Int) (tdue : Int → Int) (tlat : Int → Int) (twk : Int → Int) (nT : Int) (edue : Int → Int) (elat : Int → Int) (ewk : Int → Int) (nE : Int) (len : Int → Int) (cnt : Int) (tin : Int → Int) (sp : Int) (pe : Int) (slp : Int) (late : Int) (srv : Int) (hv : Int → Int) (av : Int) (bd : Int) (sh : Int) (sc : Int → Int) (lt : Int → Int) (rule : Int) (now : Int) (st : Int) (asl : Int) (idl : Int → Int) (idn : Int) (par : Int → Int) (div : Int → Int) (dee : Int → Int) (x1 : Int) (hx1 : zR x1) (hst : 0 ≤ st ∧ st ≤ 3) (hpw : rgZ pw 4 1000) (hco : rgZ co 4 10000) (hla : rgZ la 4 100) (hnow : 0 ≤ now ∧ now ≤ 200000) (hasl : 0 ≤ asl ∧ asl ≤ now) (hid : idR len cnt idl idn) (hc0 : co 0 = 0) (hl0 : la 0 = 0) : zXi l yX7_setAwake wsX7_setAwake rmX7_setAwake (dC, dI) (zT cI cJ cZ) (wP cI cJ cZ q pw co la vo cpar fr cdee use run nC tdue tlat twk nT edue elat ewk nE len cnt tin sp pe slp late srv hv av bd sh sc lt rule now st asl idl idn par div dee) [.ref (q 0), .int (iI x1)] (fun (r9 : Int) (u9 : Int × Int × Int × (Int → Int) × Int × (Int → Int) × Int) => r9 = pw 0 ∧ ((0 ≤ x1 ∧ x1 ≤ 1000) ∧ ((u9.1), (u9.2.1), (u9.2.2.1), (u9.2.2.2.1), (u9.2.2.2.2.1)) = scF pw la st asl now sp pe idl idn ∧ idR (u9.2.2.2.2.2.1) (u9.2.2.2.2.2.2) (u9.2.2.2.1) (u9.2.2.2.2.1))) (fun u9 : Int × Int × Int × (Int → Int) × Int × (Int → Int) × Int => wP cI cJ cZ q (uZ pw 0 x1) co la vo cpar fr cdee use run nC tdue tlat twk nT edue elat ewk nE (u9.2.2.2.2.2.1) (u9.2.2.2.2.2.2) tin (u9.2.1) (u9.2.2.1) slp late srv hv av bd sh sc lt rule now (u9.1) asl (u9.2.2.2.1) (u9.2.2.2.2.1) par div dee) (fun E => E = xA ∧ ¬ (0 ≤ x1 ∧ x1 ≤ 1000)) := by
  refine zentx_i (cc := cX7_setAwake) (maxL := 3) (ret := (some .int)) (by decide +kernel) rfl (Nat.le_of_ble_eq_true rfl) ?_
  intro p e s m below meth c A ls htr htab hX hE hP hK hA hD hS hl
  obtain ⟨hx, hb, hr, hml, hown, hts, hlocks, hmn⟩ := hE
  have hinX7 : ∀ w ∈ u_ws RX7 TX7 13, w ∈ wsX7_setAwake := by decide +kernel
  have hinX6 : ∀ w ∈ u_ws RX6 TX6 3, w ∈ wsX7_setAwake := by decide +kernel
  have hinX4 : ∀ w ∈ u_ws RX4 TX4 6, w ∈ wsX7_setAwake := by decide +kernel
  have hinX2 : ∀ w ∈ u_ws RX2 TX2 2, w ∈ wsX7_setAwake := by decide +kernel
  have hl : lv_has ls 3 [(0, .ref (q 0)), (1, .int (iI x1))] := hl
  refine z_gen (fun Q hQ => ?_)
  refine lv_iload_n hx hb dX7_setAwake_0 rfl (lv_at hl 1 rfl) ?_
  refine lv_iconst (v := iI 0) hx hb dX7_setAwake_1 rfl ?_
  refine lv_sipush (v := iI 1000) hx hb dX7_setAwake_2 (by decide) ?_
  refine zc_pi (va_runS (As := [.int (iI x1), .int (iI 0), .int (iI 1000)]) (rest := []) ⟨hx, hb, hml, hown, hts⟩ (kX7_isWithin l dC dI cI cJ cZ x1 0 1000 (by first | assumption | omega | exact b2i_01 _) (by first | assumption | omega | exact b2i_01 _) (by first | assumption | omega | exact b2i_01 _)) (va_cwS 3 hts gX7_setAwake_X7_isWithin rfl rfl rfl (by decide +kernel) ⟨Nat.le_of_ble_eq_true rfl, Nat.le_of_ble_eq_true rfl⟩) (zqS hK hP [] rfl) rfl rfl hl.1 rfl (lv_room (Nat.le_of_ble_eq_true rfl)) dX7_setAwake_5 ⟨Nat.le_of_ble_eq_true rfl, Nat.le_of_ble_eq_true rfl⟩) ?_
  refine zb_fne (tgt := 21) hx hb dX7_setAwake_8 (by decide) (fun c_1 => ?_) (fun c_1 => ?_)
  · skip
    refine lv_aload_n hx hb dX7_setAwake_21 rfl (lv_at hl 0 rfl) ?_
    refine zc_v (va_runV (As := []) (rest := []) ⟨hx, hb, hml, hown, hts⟩ (kX7_wakeForCall l dC dI cI cJ cZ q pw co la vo cpar fr cdee use run nC tdue tlat twk nT edue elat ewk nE len cnt tin sp pe slp late srv hv av bd sh sc lt rule now st asl idl idn par div dee (by first | assumption | omega | exact b2i_01 _) (by first | assumption | omega | exact b2i_01 _) (by first | assumption | omega | exact b2i_01 _) (by first | assumption | omega | exact b2i_01 _) (by first | assumption | omega | exact b2i_01 _) (by first | assumption | omega | exact b2i_01 _) (by first | assumption | omega | exact b2i_01 _) s.heap.size) (cwV 0 hts gX7_setAwake_X7_wakeForCall rfl rfl rfl (by decide +kernel) ⟨Nat.le_of_ble_eq_true rfl, Nat.le_of_ble_eq_true rfl⟩) (zpV hK hP hD [0, 1, 2, 3, 4, 5, 6, 7, 8, 9, 10, 11, 12, 13, 14, 15, 16, 17, 18, 19, 20, 21, 22, 23, 24, 25, 26, 27, 28] rfl rfl 0 rfl rfl) rfl rfl hl.1 rfl (lv_room (Nat.le_of_ble_eq_true rfl)) dX7_setAwake_22 ⟨Nat.le_of_ble_eq_true rfl, Nat.le_of_ble_eq_true rfl⟩) hP hD hS hA [0, 1, 2, 3, 4, 5, 6, 7, 8, 9, 10, 11, 12, 13, 14, 15, 16, 17, 18, 19, 20, 21, 22, 23, 24, 25, 26, 27, 28] [] rfl rfl rfl (by decide) (fun u_3 H locs r_2 hP hD hS => ?_)
    obtain ⟨stx_5, spx_6, pex_7, idlx_8, idnx_9, lenx_10, cntx_11⟩ := u_3
    have r_2 : (stx_5, spx_6, pex_7, idlx_8, idnx_9) = scF pw la st asl now sp pe idl idn ∧ idR lenx_10 cntx_11 idlx_8 idnx_9 := r_2
    have hP : va_P (dC, dI) vwCl (wP cI cJ cZ q pw co la vo cpar fr cdee use run nC tdue tlat twk nT edue elat ewk nE lenx_10 cntx_11 tin spx_6 pex_7 slp late srv hv av bd sh sc lt rule now stx_5 asl idlx_8 idnx_9 par div dee) H := hP
    have hD : va_D A (wP cI cJ cZ q pw co la vo cpar fr cdee use run nC tdue tlat twk nT edue elat ewk nE lenx_10 cntx_11 tin spx_6 pex_7 slp late srv hv av bd sh sc lt rule now stx_5 asl idlx_8 idnx_9 par div dee) := hD
    obtain ⟨hsc9, hid9⟩ := r_2
    refine lv_aload_n hx hb dX7_setAwake_25 rfl (lv_at hl 0 rfl) ?_
    refine va_get (D := (dC, dI)) (ci := 7) (v := .ref (q 1)) (C := RX7) (T := TX7) (N := 13) hx hb hts hinX7 hown hK.1 hP 0 rfl rfl 0 (by decide) (hts _ (List.mem_of_getElem? (i := 3) rfl)) (fun _ h9 => h9) rfl dX7_setAwake_26 ?_
    refine lv_iconst (v := iI 0) hx hb dX7_setAwake_29 rfl ?_
    refine zc_pi (va_runV (As := [.int (iI 0)]) (rest := []) ⟨hx, hb, hml, hown, hts⟩ (kX6_powerOf l dC dI cI cJ cZ (q 1) (q 2) (q 3) (q 4) pw co la 0 (by first | assumption | omega | exact b2i_01 _)) (cwV 1 hts gX7_setAwake_X6_powerOf rfl rfl rfl (by decide +kernel) ⟨Nat.le_of_ble_eq_true rfl, Nat.le_of_ble_eq_true rfl⟩) (zqV hK hP [1, 2, 3, 4] rfl 1 rfl rfl) rfl rfl hl.1 rfl (lv_room (Nat.le_of_ble_eq_true rfl)) dX7_setAwake_30 ⟨Nat.le_of_ble_eq_true rfl, Nat.le_of_ble_eq_true rfl⟩) ?_
    refine lv_istore_n (lv' := [(2, .int (iI (pw 0))), (0, .ref (q 0)), (1, .int (iI x1))]) hx hb dX7_setAwake_33 rfl hl (by decide) rfl (fun ls hl => ?_)
    refine lv_aload_n hx hb dX7_setAwake_34 rfl (lv_at hl 1 rfl) ?_
    refine va_get (D := (dC, dI)) (ci := 7) (v := .ref (q 1)) (C := RX7) (T := TX7) (N := 13) hx hb hts hinX7 hown hK.1 hP 0 rfl rfl 0 (by decide) (hts _ (List.mem_of_getElem? (i := 3) rfl)) (fun _ h9 => h9) rfl dX7_setAwake_35 ?_
    refine lv_iconst (v := iI 0) hx hb dX7_setAwake_38 rfl ?_
    refine lv_iload_n hx hb dX7_setAwake_39 rfl (lv_at hl 2 rfl) ?_
    refine lv_iconst (v := iI 0) hx hb dX7_setAwake_40 rfl ?_
    refine lv_iconst (v := iI 0) hx hb dX7_setAwake_41 rfl ?_
    refine zc_v (va_runV (As := [.int (iI 0), .int (iI x1), .int (iI 0), .int (iI 0)]) (rest := []) ⟨hx, hb, hml, hown, hts⟩ (kX6_change l dC dI cI cJ cZ (q 1) (q 2) (q 3) (q 4) pw co la 0 x1 0 0 (by first | assumption | omega | exact b2i_01 _) H.size) (cwV 4 hts gX7_setAwake_X6_change rfl rfl rfl (by decide +kernel) ⟨Nat.le_of_ble_eq_true rfl, Nat.le_of_ble_eq_true rfl⟩) (zpV hK hP hD [1, 2, 3, 4] rfl rfl 1 rfl rfl) rfl rfl hl.1 rfl (lv_room (Nat.le_of_ble_eq_true rfl)) dX7_setAwake_42 ⟨Nat.le_of_ble_eq_true rfl, Nat.le_of_ble_eq_true rfl⟩) hP hD hS hA [1, 2, 3, 4] [0, 5, 6, 7, 8, 9, 10, 11, 12, 13, 14, 15, 16, 17, 18, 19, 20, 21, 22, 23, 24, 25, 26, 27, 28] rfl rfl rfl (by decide) (fun u_13 H locs r_12 hP hD hS => ?_)
    have hP : va_P (dC, dI) vwCl (wP cI cJ cZ q (uZ pw 0 x1) (uZ co 0 0) (uZ la 0 0) vo cpar fr cdee use run nC tdue tlat twk nT edue elat ewk nE lenx_10 cntx_11 tin spx_6 pex_7 slp late srv hv av bd sh sc lt rule now stx_5 asl idlx_8 idnx_9 par div dee) H := hP.sub [0, 25, 26, 27, 28, 1, 2, 3, 4, 5, 6, 7, 8, 9, 10, 11, 12, 13, 14, 15, 16, 17, 18, 19, 20, 21, 22, 23, 24] (z_fm rfl)
    have hD : va_D A (wP cI cJ cZ q (uZ pw 0 x1) (uZ co 0 0) (uZ la 0 0) vo cpar fr cdee use run nC tdue tlat twk nT edue elat ewk nE lenx_10 cntx_11 tin spx_6 pex_7 slp late srv hv av bd sh sc lt rule now stx_5 asl idlx_8 idnx_9 par div dee) := hD.sub [0, 25, 26, 27, 28, 1, 2, 3, 4, 5, 6, 7, 8, 9, 10, 11, 12, 13, 14, 15, 16, 17, 18, 19, 20, 21, 22, 23, 24] (by decide) rfl
    refine lv_iload_n hx hb dX7_setAwake_45 rfl (lv_at hl 0 rfl) ?_
    subst hQ
    refine vx_ret ?_
    have w_15 : co = (uZ co 0 0) := by (have h8 := uZ_id co 0; rw [hc0] at h8; exact h8.symm)
    have w_16 : la = (uZ la 0 0) := by (have h8 := uZ_id la 0; rw [hl0] at h8; exact h8.symm)
    have hP : va_P (dC, dI) vwCl (wP cI cJ cZ q (uZ pw 0 x1) co la vo cpar fr cdee use run nC tdue tlat twk nT edue elat ewk nE lenx_10 cntx_11 tin spx_6 pex_7 slp late srv hv av bd sh sc lt rule now stx_5 asl idlx_8 idnx_9 par div dee) H := by rw [w_15, w_16]; exact hP
    have hD : va_D A (wP cI cJ cZ q (uZ pw 0 x1) co la vo cpar fr cdee use run nC tdue tlat twk nT edue elat ewk nE lenx_10 cntx_11 tin spx_6 pex_7 slp late srv hv av bd sh sc lt rule now stx_5 asl idlx_8 idnx_9 par div dee) := by rw [w_15, w_16]; exact hD
    refine W.widen (k := 1) (n := 6) (by decide) (by decide) ?_
    exact zret_i (W1 := fun u9 : Int × Int × Int × (Int → Int) × Int × (Int → Int) × Int => wP cI cJ cZ q (uZ pw 0 x1) co la vo cpar fr cdee use run nC tdue tlat twk nT edue elat ewk nE (u9.2.2.2.2.2.1) (u9.2.2.2.2.2.2) tin (u9.2.1) (u9.2.2.1) slp late srv hv av bd sh sc lt rule now (u9.1) asl (u9.2.2.2.1) (u9.2.2.2.2.1) par div dee) (stx_5, spx_6, pex_7, idlx_8, idnx_9, lenx_10, cntx_11) hx hb hr hP hD hS hlocks dX7_setAwake_46 (by exact ⟨rfl, by omega, hsc9, hid9⟩)
  · skip
    subst hQ
    exact zthrow (cls := xA) (text := "power is out of range") (ik := 82) (is := 96) (ic := 86) hx hb htr hown hX hS hP hD hA (hl.1.trans hml.symm) htab hlocks hts (by decide +kernel) (by decide +kernel) (List.mem_of_getElem? (i := 1) rfl) (List.mem_of_getElem? (i := 2) rfl) (fun w h => List.mem_cons_of_mem _ (List.mem_append_right _ h)) zx_n1 zx_g1 (List.mem_of_getElem? (i := 1) rfl) dX7_setAwake_11 dX7_setAwake_14 dX7_setAwake_15 dX7_setAwake_17 dX7_setAwake_20 (Nat.le_of_ble_eq_true rfl) (Nat.le_of_ble_eq_true rfl) (Nat.le_of_ble_eq_true rfl) (Nat.le_of_ble_eq_true rfl) (by decide) (by decide) (by first | exact ⟨rfl, by omega⟩ | omega)
def rmX7_vote : Room := { frames := 6, cells := 1, slots := 6, locals := 90 }
set_option maxRecDepth 100000 in
set_option maxHeartbeats 4000000 in
theorem kX7_vote (l : Launch) (dC : Nat → ClassId) (dI : Nat → Nat → Nat) (cI cJ cZ : ClassId) (q : Nat → Nat)  (pw : Int → Int) (co : Int → Int) (la : Int → Int) (vo : Int → Int) (cpar : Int → Int) (fr : Int → Int) (cdee : Int → Int) (use : Int → Int) (run : Int → Int) (nC : Int) (tdue : Int → Int) (tlat : Int → Int) (twk : Int → Int) (nT : Int) (edue : Int → Int) (elat : Int → Int) (ewk : Int → Int) (nE : Int) (len : Int → Int) (cnt : Int) (tin : Int → Int) (sp : Int) (pe : Int) (slp : Int) (late : Int) (srv : Int) (hv : Int → Int) (av : Int) (bd : Int) (sh : Int) (sc : Int → Int) (lt : Int → Int) (rule : Int) (now : Int) (st : Int) (asl : Int) (idl : Int → Int) (idn : Int) (par : Int → Int) (div : Int → Int) (dee : Int → Int) (x1 x2 : Int) (hx1 : zR x1) (hx2 : zR x2) (hst : 0 ≤ st ∧ st ≤ 3) (hpw : rgZ pw 4 1000) (hco : rgZ co 4 10000) (hla : rgZ la 4 100) (hnow : 0 ≤ now ∧ now ≤ 200000) (hasl : 0 ≤ asl ∧ asl ≤ now) (hid : idR len cnt idl idn) : zXi l yX7_vote wsX7_vote rmX7_vote (dC, dI) (zT cI cJ cZ) (wP cI cJ cZ q pw co la vo cpar fr cdee use run nC tdue tlat twk nT edue elat ewk nE len cnt tin sp pe slp late srv hv av bd sh sc lt rule now st asl idl idn par div dee) [.ref (q 0), .int (iI x1), .int (iI x2)] (fun (r9 : Int) (u9 : Int × Int × Int × (Int → Int) × Int × (Int → Int) × Int) => r9 = vo x1 ∧ (((0 ≤ x1 ∧ x1 ≤ 5) ∧ (0 ≤ x2 ∧ x2 ≤ 3)) ∧ ((u9.1), (u9.2.1), (u9.2.2.1), (u9.2.2.2.1), (u9.2.2.2.2.1)) = scF pw la st asl now sp pe idl idn ∧ idR (u9.2.2.2.2.2.1) (u9.2.2.2.2.2.2) (u9.2.2.2.1) (u9.2.2.2.2.1))) (fun u9 : Int × Int × Int × (Int → Int) × Int × (Int → Int) × Int => wP cI cJ cZ q pw co la (uZ vo x1 x2) cpar fr cdee use run nC tdue tlat twk nT edue elat ewk nE (u9.2.2.2.2.2.1) (u9.2.2.2.2.2.2) tin (u9.2.1) (u9.2.2.1) slp late srv hv av bd sh sc lt rule now (u9.1) asl (u9.2.2.2.1) (u9.2.2.2.2.1) par div dee) (fun E => E = xA ∧ ¬ ((0 ≤ x1 ∧ x1 ≤ 5) ∧ (0 ≤ x2 ∧ x2 ≤ 3))) := by
  refine zentx_i (cc := cX7_vote) (maxL := 3) (ret := (some .int)) (by decide +kernel) rfl (Nat.le_of_ble_eq_true rfl) ?_
  intro p e s m below meth c A ls htr htab hX hE hP hK hA hD hS hl
  obtain ⟨hx, hb, hr, hml, hown, hts, hlocks, hmn⟩ := hE
  have hinX7 : ∀ w ∈ u_ws RX7 TX7 13, w ∈ wsX7_vote := by decide +kernel
  have hinX6 : ∀ w ∈ u_ws RX6 TX6 3, w ∈ wsX7_vote := by decide +kernel
  have hinX4 : ∀ w ∈ u_ws RX4 TX4 6, w ∈ wsX7_vote := by decide +kernel
  have hinX2 : ∀ w ∈ u_ws RX2 TX2 2, w ∈ wsX7_vote := by decide +kernel
  have hl : lv_has ls 3 [(0, .ref (q 0)), (1, .int (iI x1)), (2, .int (iI x2))] := hl
  refine z_gen (fun Q hQ => ?_)
  refine lv_iload_n hx hb dX7_vote_0 rfl (lv_at hl 1 rfl) ?_
  refine lv_iconst (v := iI 0) hx hb dX7_vote_1 rfl ?_
  refine lv_iconst (v := iI 5) hx hb dX7_vote_2 rfl ?_
  refine zc_pi (va_runS (As := [.int (iI x1), .int (iI 0), .int (iI 5)]) (rest := []) ⟨hx, hb, hml, hown, hts⟩ (kX7_isWithin l dC dI cI cJ cZ x1 0 5 (by first | assumption | omega | exact b2i_01 _) (by first | assumption | omega | exact b2i_01 _) (by first | assumption | omega | exact b2i_01 _)) (va_cwS 3 hts gX7_vote_X7_isWithin rfl rfl rfl (by decide +kernel) ⟨Nat.le_of_ble_eq_true rfl, Nat.le_of_ble_eq_true rfl⟩) (zqS hK hP [] rfl) rfl rfl hl.1 rfl (lv_room (Nat.le_of_ble_eq_true rfl)) dX7_vote_3 ⟨Nat.le_of_ble_eq_true rfl, Nat.le_of_ble_eq_true rfl⟩) ?_
  refine zb_feq (tgt := 18) hx hb dX7_vote_6 (by decide) (fun c_1 => ?_) (fun c_1 => ?_)
  · skip
    subst hQ
    exact zthrow (cls := xA) (text := "driver or state is out of range") (ik := 82) (is := 102) (ic := 86) hx hb htr hown hX hS hP hD hA (hl.1.trans hml.symm) htab hlocks hts (by decide +kernel) (by decide +kernel) (List.mem_of_getElem? (i := 1) rfl) (List.mem_of_getElem? (i := 2) rfl) (fun w h => List.mem_cons_of_mem _ (List.mem_append_right _ h)) zx_n1 zx_g1 (List.mem_of_getElem? (i := 2) rfl) dX7_vote_18 dX7_vote_21 dX7_vote_22 dX7_vote_24 dX7_vote_27 (Nat.le_of_ble_eq_true rfl) (Nat.le_of_ble_eq_true rfl) (Nat.le_of_ble_eq_true rfl) (Nat.le_of_ble_eq_true rfl) (by decide) (by decide) (by first | exact ⟨rfl, by omega⟩ | omega)
  · skip
    refine lv_iload_n hx hb dX7_vote_9 rfl (lv_at hl 2 rfl) ?_
    refine lv_iconst (v := iI 0) hx hb dX7_vote_10 rfl ?_
    refine lv_iconst (v := iI 3) hx hb dX7_vote_11 rfl ?_
    refine zc_pi (va_runS (As := [.int (iI x2), .int (iI 0), .int (iI 3)]) (rest := []) ⟨hx, hb, hml, hown, hts⟩ (kX7_isWithin l dC dI cI cJ cZ x2 0 3 (by first | assumption | omega | exact b2i_01 _) (by first | assumption | omega | exact b2i_01 _) (by first | assumption | omega | exact b2i_01 _)) (va_cwS 3 hts gX7_vote_X7_isWithin rfl rfl rfl (by decide +kernel) ⟨Nat.le_of_ble_eq_true rfl, Nat.le_of_ble_eq_true rfl⟩) (zqS hK hP [] rfl) rfl rfl hl.1 rfl (lv_room (Nat.le_of_ble_eq_true rfl)) dX7_vote_12 ⟨Nat.le_of_ble_eq_true rfl, Nat.le_of_ble_eq_true rfl⟩) ?_
    refine zb_fne (tgt := 28) hx hb dX7_vote_15 (by decide) (fun c_2 => ?_) (fun c_2 => ?_)
    · skip
      refine lv_aload_n hx hb dX7_vote_28 rfl (lv_at hl 0 rfl) ?_
      refine zc_v (va_runV (As := []) (rest := []) ⟨hx, hb, hml, hown, hts⟩ (kX7_wakeForCall l dC dI cI cJ cZ q pw co la vo cpar fr cdee use run nC tdue tlat twk nT edue elat ewk nE len cnt tin sp pe slp late srv hv av bd sh sc lt rule now st asl idl idn par div dee (by first | assumption | omega | exact b2i_01 _) (by first | assumption | omega | exact b2i_01 _) (by first | assumption | omega | exact b2i_01 _) (by first | assumption | omega | exact b2i_01 _) (by first | assumption | omega | exact b2i_01 _) (by first | assumption | omega | exact b2i_01 _) (by first | assumption | omega | exact b2i_01 _) s.heap.size) (cwV 0 hts gX7_vote_X7_wakeForCall rfl rfl rfl (by decide +kernel) ⟨Nat.le_of_ble_eq_true rfl, Nat.le_of_ble_eq_true rfl⟩) (zpV hK hP hD [0, 1, 2, 3, 4, 5, 6, 7, 8, 9, 10, 11, 12, 13, 14, 15, 16, 17, 18, 19, 20, 21, 22, 23, 24, 25, 26, 27, 28] rfl rfl 0 rfl rfl) rfl rfl hl.1 rfl (lv_room (Nat.le_of_ble_eq_true rfl)) dX7_vote_29 ⟨Nat.le_of_ble_eq_true rfl, Nat.le_of_ble_eq_true rfl⟩) hP hD hS hA [0, 1, 2, 3, 4, 5, 6, 7, 8, 9, 10, 11, 12, 13, 14, 15, 16, 17, 18, 19, 20, 21, 22, 23, 24, 25, 26, 27, 28] [] rfl rfl rfl (by decide) (fun u_4 H locs r_3 hP hD hS => ?_)
      obtain ⟨stx_6, spx_7, pex_8, idlx_9, idnx_10, lenx_11, cntx_12⟩ := u_4
      have r_3 : (stx_6, spx_7, pex_8, idlx_9, idnx_10) = scF pw la st asl now sp pe idl idn ∧ idR lenx_11 cntx_12 idlx_9 idnx_10 := r_3
      have hP : va_P (dC, dI) vwCl (wP cI cJ cZ q pw co la vo cpar fr cdee use run nC tdue tlat twk nT edue elat ewk nE lenx_11 cntx_12 tin spx_7 pex_8 slp late srv hv av bd sh sc lt rule now stx_6 asl idlx_9 idnx_10 par div dee) H := hP
      have hD : va_D A (wP cI cJ cZ q pw co la vo cpar fr cdee use run nC tdue tlat twk nT edue elat ewk nE lenx_11 cntx_12 tin spx_7 pex_8 slp late srv hv av bd sh sc lt rule now stx_6 asl idlx_9 idnx_10 par div dee) := hD
      obtain ⟨hsc9, hid9⟩ := r_3
      refine lv_aload_n hx hb dX7_vote_32 rfl (lv_at hl 0 rfl) ?_
      refine va_get (D := (dC, dI)) (ci := 7) (v := .ref (q 5)) (C := RX7) (T := TX7) (N := 13) hx hb hts hinX7 hown hK.1 hP 0 rfl rfl 1 (by decide) (hts _ (List.mem_of_getElem? (i := 3) rfl)) (fun _ h9 => h9) rfl dX7_vote_33 ?_
      refine lv_iload_n hx hb dX7_vote_36 rfl (lv_at hl 1 rfl) ?_
      refine lv_iload_n hx hb dX7_vote_37 rfl (lv_at hl 2 rfl) ?_
      refine zc_i (va_runS (As := [.ref (q 5), .int (iI x1), .int (iI x2)]) (rest := []) ⟨hx, hb, hml, hown, hts⟩ (kX7_exchange l dC dI cI cJ cZ (q 5) 6 vo x1 x2 (by first | assumption | omega | exact b2i_01 _) (by first | assumption | omega | exact b2i_01 _) H.size) (va_cwS 3 hts gX7_vote_X7_exchange rfl rfl rfl (by decide +kernel) ⟨Nat.le_of_ble_eq_true rfl, Nat.le_of_ble_eq_true rfl⟩) (zpS hK hP hD [5] rfl rfl) rfl rfl hl.1 rfl (lv_room (Nat.le_of_ble_eq_true rfl)) dX7_vote_38 ⟨Nat.le_of_ble_eq_true rfl, Nat.le_of_ble_eq_true rfl⟩) hP hD hS hA [5] [0, 1, 2, 3, 4, 6, 7, 8, 9, 10, 11, 12, 13, 14, 15, 16, 17, 18, 19, 20, 21, 22, 23, 24, 25, 26, 27, 28] rfl rfl rfl (by decide) (fun v_15 u_14 H locs r_13 hP hD hS => ?_)
      refine ze_i r_13 ?_
      have hP : va_P (dC, dI) vwCl (wP cI cJ cZ q pw co la (exZ vo 6 x1 x2) cpar fr cdee use run nC tdue tlat twk nT edue elat ewk nE lenx_11 cntx_12 tin spx_7 pex_8 slp late srv hv av bd sh sc lt rule now stx_6 asl idlx_9 idnx_10 par div dee) H := hP.sub [0, 1, 2, 3, 4, 28, 5, 6, 7, 8, 9, 10, 11, 12, 13, 14, 15, 16, 17, 18, 19, 20, 21, 22, 23, 24, 25, 26, 27] (z_fm rfl)
      have hD : va_D A (wP cI cJ cZ q pw co la (exZ vo 6 x1 x2) cpar fr cdee use run nC tdue tlat twk nT edue elat ewk nE lenx_11 cntx_12 tin spx_7 pex_8 slp late srv hv av bd sh sc lt rule now stx_6 asl idlx_9 idnx_10 par div dee) := hD.sub [0, 1, 2, 3, 4, 28, 5, 6, 7, 8, 9, 10, 11, 12, 13, 14, 15, 16, 17, 18, 19, 20, 21, 22, 23, 24, 25, 26, 27] (by decide) rfl
      subst hQ
      refine vx_ret ?_
      have w_16 : (uZ vo x1 x2) = (exZ vo 6 x1 x2) := by exact (exZ_i (by omega)).symm
      have hP : va_P (dC, dI) vwCl (wP cI cJ cZ q pw co la (uZ vo x1 x2) cpar fr cdee use run nC tdue tlat twk nT edue elat ewk nE lenx_11 cntx_12 tin spx_7 pex_8 slp late srv hv av bd sh sc lt rule now stx_6 asl idlx_9 idnx_10 par div dee) H := by rw [w_16]; exact hP
      have hD : va_D A (wP cI cJ cZ q pw co la (uZ vo x1 x2) cpar fr cdee use run nC tdue tlat twk nT edue elat ewk nE lenx_11 cntx_12 tin spx_7 pex_8 slp late srv hv av bd sh sc lt rule now stx_6 asl idlx_9 idnx_10 par div dee) := by rw [w_16]; exact hD
      refine W.widen (k := 1) (n := 6) (by decide) (by decide) ?_
      exact zret_i (W1 := fun u9 : Int × Int × Int × (Int → Int) × Int × (Int → Int) × Int => wP cI cJ cZ q pw co la (uZ vo x1 x2) cpar fr cdee use run nC tdue tlat twk nT edue elat ewk nE (u9.2.2.2.2.2.1) (u9.2.2.2.2.2.2) tin (u9.2.1) (u9.2.2.1) slp late srv hv av bd sh sc lt rule now (u9.1) asl (u9.2.2.2.1) (u9.2.2.2.2.1) par div dee) (stx_6, spx_7, pex_8, idlx_9, idnx_10, lenx_11, cntx_12) hx hb hr hP hD hS hlocks dX7_vote_41 (by exact ⟨rdZ_i (by omega), by omega, hsc9, hid9⟩)
    · skip
      subst hQ
      exact zthrow (cls := xA) (text := "driver or state is out of range") (ik := 82) (is := 102) (ic := 86) hx hb htr hown hX hS hP hD hA (hl.1.trans hml.symm) htab hlocks hts (by decide +kernel) (by decide +kernel) (List.mem_of_getElem? (i := 1) rfl) (List.mem_of_getElem? (i := 2) rfl) (fun w h => List.mem_cons_of_mem _ (List.mem_append_right _ h)) zx_n1 zx_g1 (List.mem_of_getElem? (i := 2) rfl) dX7_vote_18 dX7_vote_21 dX7_vote_22 dX7_vote_24 dX7_vote_27 (Nat.le_of_ble_eq_true rfl) (Nat.le_of_ble_eq_true rfl) (Nat.le_of_ble_eq_true rfl) (Nat.le_of_ble_eq_true rfl) (by decide) (by decide) (by first | exact ⟨rfl, by omega⟩ | omega)
def rmX7_addClock : Room := { frames := 6, cells := 1, slots := 6, locals := 90 }
set_option maxRecDepth 100000 in
set_option maxHeartbeats 4000000 in
theorem kX7_addClock (l : Launch) (dC : Nat → ClassId) (dI : Nat → Nat → Nat) (cI cJ cZ : ClassId) (q : Nat → Nat)  (pw : Int → Int) (co : Int → Int) (la : Int → Int) (vo : Int → Int) (cpar : Int → Int) (fr : Int → Int) (cdee : Int → Int) (use : Int → Int) (run : Int → Int) (nC : Int) (tdue : Int → Int) (tlat : Int → Int) (twk : Int → Int) (nT : Int) (edue : Int → Int) (elat : Int → Int) (ewk : Int → Int) (nE : Int) (len : Int → Int) (cnt : Int) (tin : Int → Int) (sp : Int) (pe : Int) (slp : Int) (late : Int) (srv : Int) (hv : Int → Int) (av : Int) (bd : Int) (sh : Int) (sc : Int → Int) (lt : Int → Int) (rule : Int) (now : Int) (st : Int) (asl : Int) (idl : Int → Int) (idn : Int) (par : Int → Int) (div : Int → Int) (dee : Int → Int) (x1 x2 x3 : Int) (hx1 : zR x1) (hx2 : zR x2) (hx3 : zR x3) (hst : 0 ≤ st ∧ st ≤ 3) (hpw : rgZ pw 4 1000) (hco : rgZ co 4 10000) (hla : rgZ la 4 100) (hnow : 0 ≤ now ∧ now ≤ 200000) (hasl : 0 ≤ asl ∧ asl ≤ now) (hid : idR len cnt idl idn) (hnC : 1 ≤ nC ∧ nC ≤ 8) (huz : ∀ c : Int, nC ≤ c → c < 8 → use c = 0) (hfr : ∀ c : Int, 0 ≤ c → c < nC → 0 ≤ fr c ∧ fr c ≤ 4800) : zXi l yX7_addClock wsX7_addClock rmX7_addClock (dC, dI) (zT cI cJ cZ) (wP cI cJ cZ q pw co la vo cpar fr cdee use run nC tdue tlat twk nT edue elat ewk nE len cnt tin sp pe slp late srv hv av bd sh sc lt rule now st asl idl idn par div dee) [.ref (q 0), .int (iI x1), .int (iI x2), .int (iI x3)] (fun (r9 : Int) (u9 : Int × Int × Int × (Int → Int) × Int × (Int → Int) × Int) => r9 = nC ∧ (((0 ≤ x1 ∧ x1 < nC) ∧ ((1 ≤ x2 ∧ x2 ≤ 64) ∧ (0 ≤ x3 ∧ x3 ≤ 3)) ∧ nC < 8) ∧ ((u9.1), (u9.2.1), (u9.2.2.1), (u9.2.2.2.1), (u9.2.2.2.2.1)) = scF pw la st asl now sp pe idl idn ∧ idR (u9.2.2.2.2.2.1) (u9.2.2.2.2.2.2) (u9.2.2.2.1) (u9.2.2.2.2.1))) (fun u9 : Int × Int × Int × (Int → Int) × Int × (Int → Int) × Int => wP cI cJ cZ q pw co la vo (uZ cpar nC x1) (uZ fr nC (fr x1 / x2)) (uZ cdee nC x3) use run (nC + 1) tdue tlat twk nT edue elat ewk nE (u9.2.2.2.2.2.1) (u9.2.2.2.2.2.2) tin (u9.2.1) (u9.2.2.1) slp late srv hv av bd sh sc lt rule now (u9.1) asl (u9.2.2.2.1) (u9.2.2.2.2.1) (uZ par nC x1) (uZ div nC x2) (uZ dee nC x3)) (fun E => (E = xI ∧ ¬ (0 ≤ x1 ∧ x1 < nC)) ∨ (E = xA ∧ (0 ≤ x1 ∧ x1 < nC) ∧ ¬ ((1 ≤ x2 ∧ x2 ≤ 64) ∧ (0 ≤ x3 ∧ x3 ≤ 3))) ∨ (E = xS ∧ (0 ≤ x1 ∧ x1 < nC) ∧ ((1 ≤ x2 ∧ x2 ≤ 64) ∧ (0 ≤ x3 ∧ x3 ≤ 3)) ∧ ¬ nC < 8)) := by
  refine zentx_i (cc := cX7_addClock) (maxL := 4) (ret := (some .int)) (by decide +kernel) rfl (Nat.le_of_ble_eq_true rfl) ?_
  intro p e s m below meth c A ls htr htab hX hE hP hK hA hD hS hl
  obtain ⟨hx, hb, hr, hml, hown, hts, hlocks, hmn⟩ := hE
  have hinX7 : ∀ w ∈ u_ws RX7 TX7 13, w ∈ wsX7_addClock := by decide +kernel
  have hinX1 : ∀ w ∈ u_ws RX1 TX1 6, w ∈ wsX7_addClock := by decide +kernel
  have hinX6 : ∀ w ∈ u_ws RX6 TX6 3, w ∈ wsX7_addClock := by decide +kernel
  have hinX4 : ∀ w ∈ u_ws RX4 TX4 6, w ∈ wsX7_addClock := by decide +kernel
  have hinX2 : ∀ w ∈ u_ws RX2 TX2 2, w ∈ wsX7_addClock := by decide +kernel
  have hl : lv_has ls 4 [(0, .ref (q 0)), (1, .int (iI x1)), (2, .int (iI x2)), (3, .int (iI x3))] := hl
  refine z_gen (fun Q hQ => ?_)
  refine lv_aload_n hx hb dX7_addClock_0 rfl (lv_at hl 0 rfl) ?_
  refine va_get (D := (dC, dI)) (ci := 7) (v := .ref (q 6)) (C := RX7) (T := TX7) (N := 13) hx hb hts hinX7 hown hK.1 hP 0 rfl rfl 2 (by decide) (hts _ (List.mem_of_getElem? (i := 7) rfl)) (fun _ h9 => h9) rfl dX7_addClock_1 ?_
  refine lv_iload_n hx hb dX7_addClock_4 rfl (lv_at hl 1 rfl) ?_
  refine zc_pi (va_runV (As := [.int (iI x1)]) (rest := []) ⟨hx, hb, hml, hown, hts⟩ (kX1_has l dC dI cI cJ cZ (q 6) (q 7) (q 8) (q 9) (q 10) (q 11) cpar fr cdee use run nC x1 (by first | assumption | omega | exact b2i_01 _) (by first | assumption | omega | exact b2i_01 _)) (cwV 1 hts gX7_addClock_X1_has rfl rfl rfl (by decide +kernel) ⟨Nat.le_of_ble_eq_true rfl, Nat.le_of_ble_eq_true rfl⟩) (zqV hK hP [6, 7, 8, 9, 10, 11] rfl 6 rfl rfl) rfl rfl hl.1 rfl (lv_room (Nat.le_of_ble_eq_true rfl)) dX7_addClock_5 ⟨Nat.le_of_ble_eq_true rfl, Nat.le_of_ble_eq_true rfl⟩) ?_
  refine zb_fne (tgt := 21) hx hb dX7_addClock_8 (by decide) (fun c_1 => ?_) (fun c_1 => ?_)
  · skip
    refine lv_iload_n hx hb dX7_addClock_21 rfl (lv_at hl 2 rfl) ?_
    refine lv_iconst (v := iI 1) hx hb dX7_addClock_22 rfl ?_
    refine lv_bipush (v := iI 64) hx hb dX7_addClock_23 (by decide) ?_
    refine zc_pi (va_runS (As := [.int (iI x2), .int (iI 1), .int (iI 64)]) (rest := []) ⟨hx, hb, hml, hown, hts⟩ (kX7_isWithin l dC dI cI cJ cZ x2 1 64 (by first | assumption | omega | exact b2i_01 _) (by first | assumption | omega | exact b2i_01 _) (by first | assumption | omega | exact b2i_01 _)) (va_cwS 3 hts gX7_addClock_X7_isWithin rfl rfl rfl (by decide +kernel) ⟨Nat.le_of_ble_eq_true rfl, Nat.le_of_ble_eq_true rfl⟩) (zqS hK hP [] rfl) rfl rfl hl.1 rfl (lv_room (Nat.le_of_ble_eq_true rfl)) dX7_addClock_25 ⟨Nat.le_of_ble_eq_true rfl, Nat.le_of_ble_eq_true rfl⟩) ?_
    refine zb_feq (tgt := 40) hx hb dX7_addClock_28 (by decide) (fun c_2 => ?_) (fun c_2 => ?_)
    · skip
      subst hQ
      exact zthrow (cls := xA) (text := "divider or deepest is out of range") (ik := 82) (is := 117) (ic := 86) hx hb htr hown hX hS hP hD hA (hl.1.trans hml.symm) htab hlocks hts (by decide +kernel) (by decide +kernel) (List.mem_of_getElem? (i := 3) rfl) (List.mem_of_getElem? (i := 4) rfl) (fun w h => List.mem_cons_of_mem _ (List.mem_append_left _ (List.mem_append_right _ h))) zx_n1 zx_g1 (List.mem_of_getElem? (i := 4) rfl) dX7_addClock_40 dX7_addClock_43 dX7_addClock_44 dX7_addClock_46 dX7_addClock_49 (Nat.le_of_ble_eq_true rfl) (Nat.le_of_ble_eq_true rfl) (Nat.le_of_ble_eq_true rfl) (Nat.le_of_ble_eq_true rfl) (by decide) (by decide) (by first | exact Or.inl ⟨rfl, by omega⟩ | exact Or.inr (Or.inl ⟨rfl, by omega, by omega⟩) | exact Or.inr (Or.inr ⟨rfl, by omega, by omega, by omega⟩))
    · skip
      refine lv_iload_n hx hb dX7_addClock_31 rfl (lv_at hl 3 rfl) ?_
      refine lv_iconst (v := iI 0) hx hb dX7_addClock_32 rfl ?_
      refine lv_iconst (v := iI 3) hx hb dX7_addClock_33 rfl ?_
      refine zc_pi (va_runS (As := [.int (iI x3), .int (iI 0), .int (iI 3)]) (rest := []) ⟨hx, hb, hml, hown, hts⟩ (kX7_isWithin l dC dI cI cJ cZ x3 0 3 (by first | assumption | omega | exact b2i_01 _) (by first | assumption | omega | exact b2i_01 _) (by first | assumption | omega | exact b2i_01 _)) (va_cwS 3 hts gX7_addClock_X7_isWithin rfl rfl rfl (by decide +kernel) ⟨Nat.le_of_ble_eq_true rfl, Nat.le_of_ble_eq_true rfl⟩) (zqS hK hP [] rfl) rfl rfl hl.1 rfl (lv_room (Nat.le_of_ble_eq_true rfl)) dX7_addClock_34 ⟨Nat.le_of_ble_eq_true rfl, Nat.le_of_ble_eq_true rfl⟩) ?_
      refine zb_fne (tgt := 50) hx hb dX7_addClock_37 (by decide) (fun c_3 => ?_) (fun c_3 => ?_)
      · skip
        refine lv_aload_n hx hb dX7_addClock_50 rfl (lv_at hl 0 rfl) ?_
        refine va_get (D := (dC, dI)) (ci := 7) (v := .ref (q 6)) (C := RX7) (T := TX7) (N := 13) hx hb hts hinX7 hown hK.1 hP 0 rfl rfl 2 (by decide) (hts _ (List.mem_of_getElem? (i := 7) rfl)) (fun _ h9 => h9) rfl dX7_addClock_51 ?_
        refine zc_pi (va_runV (As := []) (rest := []) ⟨hx, hb, hml, hown, hts⟩ (kX1_isFull l dC dI cI cJ cZ (q 6) (q 7) (q 8) (q 9) (q 10) (q 11) cpar fr cdee use run nC (by first | assumption | omega | exact b2i_01 _)) (cwV 0 hts gX7_addClock_X1_isFull rfl rfl rfl (by decide +kernel) ⟨Nat.le_of_ble_eq_true rfl, Nat.le_of_ble_eq_true rfl⟩) (zqV hK hP [6, 7, 8, 9, 10, 11] rfl 6 rfl rfl) rfl rfl hl.1 rfl (lv_room (Nat.le_of_ble_eq_true rfl)) dX7_addClock_54 ⟨Nat.le_of_ble_eq_true rfl, Nat.le_of_ble_eq_true rfl⟩) ?_
        refine zb_feq (tgt := 70) hx hb dX7_addClock_57 (by decide) (fun c_4 => ?_) (fun c_4 => ?_)
        · skip
          refine lv_aload_n hx hb dX7_addClock_70 rfl (lv_at hl 0 rfl) ?_
          refine zc_v (va_runV (As := []) (rest := []) ⟨hx, hb, hml, hown, hts⟩ (kX7_wakeForCall l dC dI cI cJ cZ q pw co la vo cpar fr cdee use run nC tdue tlat twk nT edue elat ewk nE len cnt tin sp pe slp late srv hv av bd sh sc lt rule now st asl idl idn par div dee (by first | assumption | omega | exact b2i_01 _) (by first | assumption | omega | exact b2i_01 _) (by first | assumption | omega | exact b2i_01 _) (by first | assumption | omega | exact b2i_01 _) (by first | assumption | omega | exact b2i_01 _) (by first | assumption | omega | exact b2i_01 _) (by first | assumption | omega | exact b2i_01 _) s.heap.size) (cwV 0 hts gX7_addClock_X7_wakeForCall rfl rfl rfl (by decide +kernel) ⟨Nat.le_of_ble_eq_true rfl, Nat.le_of_ble_eq_true rfl⟩) (zpV hK hP hD [0, 1, 2, 3, 4, 5, 6, 7, 8, 9, 10, 11, 12, 13, 14, 15, 16, 17, 18, 19, 20, 21, 22, 23, 24, 25, 26, 27, 28] rfl rfl 0 rfl rfl) rfl rfl hl.1 rfl (lv_room (Nat.le_of_ble_eq_true rfl)) dX7_addClock_71 ⟨Nat.le_of_ble_eq_true rfl, Nat.le_of_ble_eq_true rfl⟩) hP hD hS hA [0, 1, 2, 3, 4, 5, 6, 7, 8, 9, 10, 11, 12, 13, 14, 15, 16, 17, 18, 19, 20, 21, 22, 23, 24, 25, 26, 27, 28] [] rfl rfl rfl (by decide) (fun u_6 H locs r_5 hP hD hS => ?_)
          obtain ⟨stx_8, spx_9, pex_10, idlx_11, idnx_12, lenx_13, cntx_14⟩ := u_6
          have r_5 : (stx_8, spx_9, pex_10, idlx_11, idnx_12) = scF pw la st asl now sp pe idl idn ∧ idR lenx_13 cntx_14 idlx_11 idnx_12 := r_5
          have hP : va_P (dC, dI) vwCl (wP cI cJ cZ q pw co la vo cpar fr cdee use run nC tdue tlat twk nT edue elat ewk nE lenx_13 cntx_14 tin spx_9 pex_10 slp late srv hv av bd sh sc lt rule now stx_8 asl idlx_11 idnx_12 par div dee) H := hP
          have hD : va_D A (wP cI cJ cZ q pw co la vo cpar fr cdee use run nC tdue tlat twk nT edue elat ewk nE lenx_13 cntx_14 tin spx_9 pex_10 slp late srv hv av bd sh sc lt rule now stx_8 asl idlx_11 idnx_12 par div dee) := hD
          obtain ⟨hsc9, hid9⟩ := r_5
          refine lv_aload_n hx hb dX7_addClock_74 rfl (lv_at hl 0 rfl) ?_
          refine va_get (D := (dC, dI)) (ci := 7) (v := .ref (q 6)) (C := RX7) (T := TX7) (N := 13) hx hb hts hinX7 hown hK.1 hP 0 rfl rfl 2 (by decide) (hts _ (List.mem_of_getElem? (i := 7) rfl)) (fun _ h9 => h9) rfl dX7_addClock_75 ?_
          refine lv_iload_n hx hb dX7_addClock_78 rfl (lv_at hl 1 rfl) ?_
          refine lv_iload_n hx hb dX7_addClock_79 rfl (lv_at hl 2 rfl) ?_
          refine lv_iload_n hx hb dX7_addClock_80 rfl (lv_at hl 3 rfl) ?_
          refine zc_i (va_runV (As := [.int (iI x1), .int (iI x2), .int (iI x3)]) (rest := []) ⟨hx, hb, hml, hown, hts⟩ (kX1_add l dC dI cI cJ cZ (q 6) (q 7) (q 8) (q 9) (q 10) (q 11) cpar fr cdee use run nC x1 x2 x3 (by first | assumption | omega | exact b2i_01 _) (by first | assumption | omega | exact b2i_01 _) (by first | assumption | omega | exact b2i_01 _) (hfr x1 (by omega) (by omega)) H.size) (cwV 3 hts gX7_addClock_X1_add rfl rfl rfl (by decide +kernel) ⟨Nat.le_of_ble_eq_true rfl, Nat.le_of_ble_eq_true rfl⟩) (zpV hK hP hD [6, 7, 8, 9, 10, 11] rfl rfl 6 rfl rfl) rfl rfl hl.1 rfl (lv_room (Nat.le_of_ble_eq_true rfl)) dX7_addClock_81 ⟨Nat.le_of_ble_eq_true rfl, Nat.le_of_ble_eq_true rfl⟩) hP hD hS hA [6, 7, 8, 9, 10, 11] [0, 1, 2, 3, 4, 5, 12, 13, 14, 15, 16, 17, 18, 19, 20, 21, 22, 23, 24, 25, 26, 27, 28] rfl rfl rfl (by decide) (fun v_17 u_16 H locs r_15 hP hD hS => ?_)
          refine ze_i r_15 ?_
          have hP : va_P (dC, dI) vwCl (wP cI cJ cZ q pw co la vo (uZ cpar nC x1) (uZ fr nC (fr x1 / x2)) (uZ cdee nC x3) (uZ use nC 0) run (nC + 1) tdue tlat twk nT edue elat ewk nE lenx_13 cntx_14 tin spx_9 pex_10 slp late srv hv av bd sh sc lt rule now stx_8 asl idlx_11 idnx_12 par div dee) H := hP.sub [0, 1, 2, 3, 4, 5, 23, 24, 25, 26, 27, 28, 6, 7, 8, 9, 10, 11, 12, 13, 14, 15, 16, 17, 18, 19, 20, 21, 22] (z_fm rfl)
          have hD : va_D A (wP cI cJ cZ q pw co la vo (uZ cpar nC x1) (uZ fr nC (fr x1 / x2)) (uZ cdee nC x3) (uZ use nC 0) run (nC + 1) tdue tlat twk nT edue elat ewk nE lenx_13 cntx_14 tin spx_9 pex_10 slp late srv hv av bd sh sc lt rule now stx_8 asl idlx_11 idnx_12 par div dee) := hD.sub [0, 1, 2, 3, 4, 5, 23, 24, 25, 26, 27, 28, 6, 7, 8, 9, 10, 11, 12, 13, 14, 15, 16, 17, 18, 19, 20, 21, 22] (by decide) rfl
          subst hQ
          refine vx_ret ?_
          have hP : va_P (dC, dI) vwCl (wP cI cJ cZ q pw co la vo (uZ cpar nC x1) (uZ fr nC (fr x1 / x2)) (uZ cdee nC x3) (uZ use nC 0) run (nC + 1) tdue tlat twk nT edue elat ewk nE lenx_13 cntx_14 tin spx_9 pex_10 slp late srv hv av bd sh sc lt rule now stx_8 asl idlx_11 idnx_12 (uZ par nC x1) (uZ div nC x2) (uZ dee nC x3)) H := hP
          have hD : va_D A (wP cI cJ cZ q pw co la vo (uZ cpar nC x1) (uZ fr nC (fr x1 / x2)) (uZ cdee nC x3) (uZ use nC 0) run (nC + 1) tdue tlat twk nT edue elat ewk nE lenx_13 cntx_14 tin spx_9 pex_10 slp late srv hv av bd sh sc lt rule now stx_8 asl idlx_11 idnx_12 (uZ par nC x1) (uZ div nC x2) (uZ dee nC x3)) := hD
          have w_18 : use = (uZ use nC 0) := by (have h8 := uZ_id use nC; rw [huz nC (by omega) (by omega)] at h8; exact h8.symm)
          have hP : va_P (dC, dI) vwCl (wP cI cJ cZ q pw co la vo (uZ cpar nC x1) (uZ fr nC (fr x1 / x2)) (uZ cdee nC x3) use run (nC + 1) tdue tlat twk nT edue elat ewk nE lenx_13 cntx_14 tin spx_9 pex_10 slp late srv hv av bd sh sc lt rule now stx_8 asl idlx_11 idnx_12 (uZ par nC x1) (uZ div nC x2) (uZ dee nC x3)) H := by rw [w_18]; exact hP
          have hD : va_D A (wP cI cJ cZ q pw co la vo (uZ cpar nC x1) (uZ fr nC (fr x1 / x2)) (uZ cdee nC x3) use run (nC + 1) tdue tlat twk nT edue elat ewk nE lenx_13 cntx_14 tin spx_9 pex_10 slp late srv hv av bd sh sc lt rule now stx_8 asl idlx_11 idnx_12 (uZ par nC x1) (uZ div nC x2) (uZ dee nC x3)) := by rw [w_18]; exact hD
          refine W.widen (k := 1) (n := 6) (by decide) (by decide) ?_
          exact zret_i (W1 := fun u9 : Int × Int × Int × (Int → Int) × Int × (Int → Int) × Int => wP cI cJ cZ q pw co la vo (uZ cpar nC x1) (uZ fr nC (fr x1 / x2)) (uZ cdee nC x3) use run (nC + 1) tdue tlat twk nT edue elat ewk nE (u9.2.2.2.2.2.1) (u9.2.2.2.2.2.2) tin (u9.2.1) (u9.2.2.1) slp late srv hv av bd sh sc lt rule now (u9.1) asl (u9.2.2.2.1) (u9.2.2.2.2.1) (uZ par nC x1) (uZ div nC x2) (uZ dee nC x3)) (stx_8, spx_9, pex_10, idlx_11, idnx_12, lenx_13, cntx_14) hx hb hr hP hD hS hlocks dX7_addClock_84 (by exact ⟨rfl, by omega, hsc9, hid9⟩)
        · skip
          subst hQ
          exact zthrow (cls := xS) (text := "there are 8 clocks") (ik := 123) (is := 125) (ic := 127) hx hb htr hown hX hS hP hD hA (hl.1.trans hml.symm) htab hlocks hts (by decide +kernel) (by decide +kernel) (List.mem_of_getElem? (i := 5) rfl) (List.mem_of_getElem? (i := 6) rfl) (fun w h => List.mem_cons_of_mem _ (List.mem_append_right _ h)) zx_n3 zx_g3 (List.mem_of_getElem? (i := 5) rfl) dX7_addClock_60 dX7_addClock_63 dX7_addClock_64 dX7_addClock_66 dX7_addClock_69 (Nat.le_of_ble_eq_true rfl) (Nat.le_of_ble_eq_true rfl) (Nat.le_of_ble_eq_true rfl) (Nat.le_of_ble_eq_true rfl) (by decide) (by decide) (by first | exact Or.inl ⟨rfl, by omega⟩ | exact Or.inr (Or.inl ⟨rfl, by omega, by omega⟩) | exact Or.inr (Or.inr ⟨rfl, by omega, by omega, by omega⟩))
      · skip
        subst hQ
        exact zthrow (cls := xA) (text := "divider or deepest is out of range") (ik := 82) (is := 117) (ic := 86) hx hb htr hown hX hS hP hD hA (hl.1.trans hml.symm) htab hlocks hts (by decide +kernel) (by decide +kernel) (List.mem_of_getElem? (i := 3) rfl) (List.mem_of_getElem? (i := 4) rfl) (fun w h => List.mem_cons_of_mem _ (List.mem_append_left _ (List.mem_append_right _ h))) zx_n1 zx_g1 (List.mem_of_getElem? (i := 4) rfl) dX7_addClock_40 dX7_addClock_43 dX7_addClock_44 dX7_addClock_46 dX7_addClock_49 (Nat.le_of_ble_eq_true rfl) (Nat.le_of_ble_eq_true rfl) (Nat.le_of_ble_eq_true rfl) (Nat.le_of_ble_eq_true rfl) (by decide) (by decide) (by first | exact Or.inl ⟨rfl, by omega⟩ | exact Or.inr (Or.inl ⟨rfl, by omega, by omega⟩) | exact Or.inr (Or.inr ⟨rfl, by omega, by omega, by omega⟩))
  · skip
    subst hQ
    exact zthrow (cls := xI) (text := "there is no clock parent") (ik := 112) (is := 114) (ic := 116) hx hb htr hown hX hS hP hD hA (hl.1.trans hml.symm) htab hlocks hts (by decide +kernel) (by decide +kernel) (List.mem_of_getElem? (i := 1) rfl) (List.mem_of_getElem? (i := 2) rfl) (fun w h => List.mem_cons_of_mem _ (List.mem_append_left _ (List.mem_append_left _ (List.mem_append_right _ h)))) zx_n2 zx_g2 (List.mem_of_getElem? (i := 3) rfl) dX7_addClock_11 dX7_addClock_14 dX7_addClock_15 dX7_addClock_17 dX7_addClock_20 (Nat.le_of_ble_eq_true rfl) (Nat.le_of_ble_eq_true rfl) (Nat.le_of_ble_eq_true rfl) (Nat.le_of_ble_eq_true rfl) (by decide) (by decide) (by first | exact Or.inl ⟨rfl, by omega⟩ | exact Or.inr (Or.inl ⟨rfl, by omega, by omega⟩) | exact Or.inr (Or.inr ⟨rfl, by omega, by omega, by omega⟩))
def rmX7_use : Room := { frames := 6, cells := 1, slots := 6, locals := 90 }
set_option maxRecDepth 100000 in
set_option maxHeartbeats 4000000 in
theorem kX7_use (l : Launch) (dC : Nat → ClassId) (dI : Nat → Nat → Nat) (cI cJ cZ : ClassId) (q : Nat → Nat)  (pw : Int → Int) (co : Int → Int) (la : Int → Int) (vo : Int → Int) (cpar : Int → Int) (fr : Int → Int) (cdee : Int → Int) (use : Int → Int) (run : Int → Int) (nC : Int) (tdue : Int → Int) (tlat : Int → Int) (twk : Int → Int) (nT : Int) (edue : Int → Int) (elat : Int → Int) (ewk : Int → Int) (nE : Int) (len : Int → Int) (cnt : Int) (tin : Int → Int) (sp : Int) (pe : Int) (slp : Int) (late : Int) (srv : Int) (hv : Int → Int) (av : Int) (bd : Int) (sh : Int) (sc : Int → Int) (lt : Int → Int) (rule : Int) (now : Int) (st : Int) (asl : Int) (idl : Int → Int) (idn : Int) (par : Int → Int) (div : Int → Int) (dee : Int → Int) (x1 : Int) (hx1 : zR x1) (hst : 0 ≤ st ∧ st ≤ 3) (hpw : rgZ pw 4 1000) (hco : rgZ co 4 10000) (hla : rgZ la 4 100) (hnow : 0 ≤ now ∧ now ≤ 200000) (hasl : 0 ≤ asl ∧ asl ≤ now) (hid : idR len cnt idl idn) (hnC : 1 ≤ nC ∧ nC ≤ 8) (huse : rgZ use 8 9) : zXi l yX7_use wsX7_use rmX7_use (dC, dI) (zT cI cJ cZ) (wP cI cJ cZ q pw co la vo cpar fr cdee use run nC tdue tlat twk nT edue elat ewk nE len cnt tin sp pe slp late srv hv av bd sh sc lt rule now st asl idl idn par div dee) [.ref (q 0), .int (iI x1)] (fun (r9 : Int) (u9 : Int × Int × Int × (Int → Int) × Int × (Int → Int) × Int) => r9 = use x1 + 1 ∧ (((0 ≤ x1 ∧ x1 < nC) ∧ use x1 < 9) ∧ ((u9.1), (u9.2.1), (u9.2.2.1), (u9.2.2.2.1), (u9.2.2.2.2.1)) = scF pw la st asl now sp pe idl idn ∧ idR (u9.2.2.2.2.2.1) (u9.2.2.2.2.2.2) (u9.2.2.2.1) (u9.2.2.2.2.1))) (fun u9 : Int × Int × Int × (Int → Int) × Int × (Int → Int) × Int => wP cI cJ cZ q pw co la vo cpar fr cdee (uZ use x1 (use x1 + 1)) run nC tdue tlat twk nT edue elat ewk nE (u9.2.2.2.2.2.1) (u9.2.2.2.2.2.2) tin (u9.2.1) (u9.2.2.1) slp late srv hv av bd sh sc lt rule now (u9.1) asl (u9.2.2.2.1) (u9.2.2.2.2.1) par div dee) (fun E => (E = xI ∧ ¬ (0 ≤ x1 ∧ x1 < nC)) ∨ (E = xS ∧ (0 ≤ x1 ∧ x1 < nC) ∧ ¬ use x1 < 9)) := by
  refine zentx_i (cc := cX7_use) (maxL := 2) (ret := (some .int)) (by decide +kernel) rfl (Nat.le_of_ble_eq_true rfl) ?_
  intro p e s m below meth c A ls htr htab hX hE hP hK hA hD hS hl
  obtain ⟨hx, hb, hr, hml, hown, hts, hlocks, hmn⟩ := hE
  have hinX7 : ∀ w ∈ u_ws RX7 TX7 13, w ∈ wsX7_use := by decide +kernel
  have hinX1 : ∀ w ∈ u_ws RX1 TX1 6, w ∈ wsX7_use := by decide +kernel
  have hinX6 : ∀ w ∈ u_ws RX6 TX6 3, w ∈ wsX7_use := by decide +kernel
  have hinX4 : ∀ w ∈ u_ws RX4 TX4 6, w ∈ wsX7_use := by decide +kernel
  have hinX2 : ∀ w ∈ u_ws RX2 TX2 2, w ∈ wsX7_use := by decide +kernel
  have hl : lv_has ls 2 [(0, .ref (q 0)), (1, .int (iI x1))] := hl
  refine z_gen (fun Q hQ => ?_)
  refine lv_aload_n hx hb dX7_use_0 rfl (lv_at hl 0 rfl) ?_
  refine va_get (D := (dC, dI)) (ci := 7) (v := .ref (q 6)) (C := RX7) (T := TX7) (N := 13) hx hb hts hinX7 hown hK.1 hP 0 rfl rfl 2 (by decide) (hts _ (List.mem_of_getElem? (i := 5) rfl)) (fun _ h9 => h9) rfl dX7_use_1 ?_
  refine lv_iload_n hx hb dX7_use_4 rfl (lv_at hl 1 rfl) ?_
  refine zc_pi (va_runV (As := [.int (iI x1)]) (rest := []) ⟨hx, hb, hml, hown, hts⟩ (kX1_has l dC dI cI cJ cZ (q 6) (q 7) (q 8) (q 9) (q 10) (q 11) cpar fr cdee use run nC x1 (by first | assumption | omega | exact b2i_01 _) (by first | assumption | omega | exact b2i_01 _)) (cwV 1 hts gX7_use_X1_has rfl rfl rfl (by decide +kernel) ⟨Nat.le_of_ble_eq_true rfl, Nat.le_of_ble_eq_true rfl⟩) (zqV hK hP [6, 7, 8, 9, 10, 11] rfl 6 rfl rfl) rfl rfl hl.1 rfl (lv_room (Nat.le_of_ble_eq_true rfl)) dX7_use_5 ⟨Nat.le_of_ble_eq_true rfl, Nat.le_of_ble_eq_true rfl⟩) ?_
  refine zb_fne (tgt := 21) hx hb dX7_use_8 (by decide) (fun c_1 => ?_) (fun c_1 => ?_)
  · skip
    refine lv_aload_n hx hb dX7_use_21 rfl (lv_at hl 0 rfl) ?_
    refine va_get (D := (dC, dI)) (ci := 7) (v := .ref (q 6)) (C := RX7) (T := TX7) (N := 13) hx hb hts hinX7 hown hK.1 hP 0 rfl rfl 2 (by decide) (hts _ (List.mem_of_getElem? (i := 5) rfl)) (fun _ h9 => h9) rfl dX7_use_22 ?_
    refine lv_iload_n hx hb dX7_use_25 rfl (lv_at hl 1 rfl) ?_
    refine zc_pi (va_runV (As := [.int (iI x1)]) (rest := []) ⟨hx, hb, hml, hown, hts⟩ (kX1_usesOf l dC dI cI cJ cZ (q 6) (q 7) (q 8) (q 9) (q 10) (q 11) cpar fr cdee use run nC x1 (by first | assumption | omega | exact b2i_01 _)) (cwV 1 hts gX7_use_X1_usesOf rfl rfl rfl (by decide +kernel) ⟨Nat.le_of_ble_eq_true rfl, Nat.le_of_ble_eq_true rfl⟩) (zqV hK hP [6, 7, 8, 9, 10, 11] rfl 6 rfl rfl) rfl rfl hl.1 rfl (lv_room (Nat.le_of_ble_eq_true rfl)) dX7_use_26 ⟨Nat.le_of_ble_eq_true rfl, Nat.le_of_ble_eq_true rfl⟩) ?_
    have e_2 := huse x1 (by omega) (by omega)
    refine lv_bipush (v := iI 9) hx hb dX7_use_29 (by decide) ?_
    refine zi_clt (tgt := 44) hx hb (by omega) (by decide) dX7_use_31 (by decide) (fun c_3 => ?_) (fun c_3 => ?_)
    · skip
      refine lv_aload_n hx hb dX7_use_44 rfl (lv_at hl 0 rfl) ?_
      refine zc_v (va_runV (As := []) (rest := []) ⟨hx, hb, hml, hown, hts⟩ (kX7_wakeForCall l dC dI cI cJ cZ q pw co la vo cpar fr cdee use run nC tdue tlat twk nT edue elat ewk nE len cnt tin sp pe slp late srv hv av bd sh sc lt rule now st asl idl idn par div dee (by first | assumption | omega | exact b2i_01 _) (by first | assumption | omega | exact b2i_01 _) (by first | assumption | omega | exact b2i_01 _) (by first | assumption | omega | exact b2i_01 _) (by first | assumption | omega | exact b2i_01 _) (by first | assumption | omega | exact b2i_01 _) (by first | assumption | omega | exact b2i_01 _) s.heap.size) (cwV 0 hts gX7_use_X7_wakeForCall rfl rfl rfl (by decide +kernel) ⟨Nat.le_of_ble_eq_true rfl, Nat.le_of_ble_eq_true rfl⟩) (zpV hK hP hD [0, 1, 2, 3, 4, 5, 6, 7, 8, 9, 10, 11, 12, 13, 14, 15, 16, 17, 18, 19, 20, 21, 22, 23, 24, 25, 26, 27, 28] rfl rfl 0 rfl rfl) rfl rfl hl.1 rfl (lv_room (Nat.le_of_ble_eq_true rfl)) dX7_use_45 ⟨Nat.le_of_ble_eq_true rfl, Nat.le_of_ble_eq_true rfl⟩) hP hD hS hA [0, 1, 2, 3, 4, 5, 6, 7, 8, 9, 10, 11, 12, 13, 14, 15, 16, 17, 18, 19, 20, 21, 22, 23, 24, 25, 26, 27, 28] [] rfl rfl rfl (by decide) (fun u_5 H locs r_4 hP hD hS => ?_)
      obtain ⟨stx_7, spx_8, pex_9, idlx_10, idnx_11, lenx_12, cntx_13⟩ := u_5
      have r_4 : (stx_7, spx_8, pex_9, idlx_10, idnx_11) = scF pw la st asl now sp pe idl idn ∧ idR lenx_12 cntx_13 idlx_10 idnx_11 := r_4
      have hP : va_P (dC, dI) vwCl (wP cI cJ cZ q pw co la vo cpar fr cdee use run nC tdue tlat twk nT edue elat ewk nE lenx_12 cntx_13 tin spx_8 pex_9 slp late srv hv av bd sh sc lt rule now stx_7 asl idlx_10 idnx_11 par div dee) H := hP
      have hD : va_D A (wP cI cJ cZ q pw co la vo cpar fr cdee use run nC tdue tlat twk nT edue elat ewk nE lenx_12 cntx_13 tin spx_8 pex_9 slp late srv hv av bd sh sc lt rule now stx_7 asl idlx_10 idnx_11 par div dee) := hD
      obtain ⟨hsc9, hid9⟩ := r_4
      refine lv_aload_n hx hb dX7_use_48 rfl (lv_at hl 0 rfl) ?_
      refine va_get (D := (dC, dI)) (ci := 7) (v := .ref (q 6)) (C := RX7) (T := TX7) (N := 13) hx hb hts hinX7 hown hK.1 hP 0 rfl rfl 2 (by decide) (hts _ (List.mem_of_getElem? (i := 5) rfl)) (fun _ h9 => h9) rfl dX7_use_49 ?_
      refine lv_iload_n hx hb dX7_use_52 rfl (lv_at hl 1 rfl) ?_
      refine lv_iconst (v := iI 1) hx hb dX7_use_53 rfl ?_
      refine zc_i (va_runV (As := [.int (iI x1), .int (iI 1)]) (rest := []) ⟨hx, hb, hml, hown, hts⟩ (kX1_changeUses l dC dI cI cJ cZ (q 6) (q 7) (q 8) (q 9) (q 10) (q 11) cpar fr cdee use run nC x1 1 (by first | assumption | omega | exact b2i_01 _) H.size) (cwV 2 hts gX7_use_X1_changeUses rfl rfl rfl (by decide +kernel) ⟨Nat.le_of_ble_eq_true rfl, Nat.le_of_ble_eq_true rfl⟩) (zpV hK hP hD [6, 7, 8, 9, 10, 11] rfl rfl 6 rfl rfl) rfl rfl hl.1 rfl (lv_room (Nat.le_of_ble_eq_true rfl)) dX7_use_54 ⟨Nat.le_of_ble_eq_true rfl, Nat.le_of_ble_eq_true rfl⟩) hP hD hS hA [6, 7, 8, 9, 10, 11] [0, 1, 2, 3, 4, 5, 12, 13, 14, 15, 16, 17, 18, 19, 20, 21, 22, 23, 24, 25, 26, 27, 28] rfl rfl rfl (by decide) (fun v_16 u_15 H locs r_14 hP hD hS => ?_)
      refine ze_i r_14 ?_
      have hP : va_P (dC, dI) vwCl (wP cI cJ cZ q pw co la vo cpar fr cdee (uZ use x1 (use x1 + 1)) run nC tdue tlat twk nT edue elat ewk nE lenx_12 cntx_13 tin spx_8 pex_9 slp late srv hv av bd sh sc lt rule now stx_7 asl idlx_10 idnx_11 par div dee) H := hP.sub [0, 1, 2, 3, 4, 5, 23, 24, 25, 26, 27, 28, 6, 7, 8, 9, 10, 11, 12, 13, 14, 15, 16, 17, 18, 19, 20, 21, 22] (z_fm rfl)
      have hD : va_D A (wP cI cJ cZ q pw co la vo cpar fr cdee (uZ use x1 (use x1 + 1)) run nC tdue tlat twk nT edue elat ewk nE lenx_12 cntx_13 tin spx_8 pex_9 slp late srv hv av bd sh sc lt rule now stx_7 asl idlx_10 idnx_11 par div dee) := hD.sub [0, 1, 2, 3, 4, 5, 23, 24, 25, 26, 27, 28, 6, 7, 8, 9, 10, 11, 12, 13, 14, 15, 16, 17, 18, 19, 20, 21, 22] (by decide) rfl
      subst hQ
      refine vx_ret ?_
      refine W.widen (k := 1) (n := 6) (by decide) (by decide) ?_
      exact zret_i (W1 := fun u9 : Int × Int × Int × (Int → Int) × Int × (Int → Int) × Int => wP cI cJ cZ q pw co la vo cpar fr cdee (uZ use x1 (use x1 + 1)) run nC tdue tlat twk nT edue elat ewk nE (u9.2.2.2.2.2.1) (u9.2.2.2.2.2.2) tin (u9.2.1) (u9.2.2.1) slp late srv hv av bd sh sc lt rule now (u9.1) asl (u9.2.2.2.1) (u9.2.2.2.2.1) par div dee) (stx_7, spx_8, pex_9, idlx_10, idnx_11, lenx_12, cntx_13) hx hb hr hP hD hS hlocks dX7_use_57 (by exact ⟨rfl, by omega, hsc9, hid9⟩)
    · skip
      subst hQ
      exact zthrow (cls := xS) (text := "the clock is used 9 times") (ik := 123) (is := 137) (ic := 127) hx hb htr hown hX hS hP hD hA (hl.1.trans hml.symm) htab hlocks hts (by decide +kernel) (by decide +kernel) (List.mem_of_getElem? (i := 3) rfl) (List.mem_of_getElem? (i := 4) rfl) (fun w h => List.mem_cons_of_mem _ (List.mem_append_right _ h)) zx_n3 zx_g3 (List.mem_of_getElem? (i := 7) rfl) dX7_use_34 dX7_use_37 dX7_use_38 dX7_use_40 dX7_use_43 (Nat.le_of_ble_eq_true rfl) (Nat.le_of_ble_eq_true rfl) (Nat.le_of_ble_eq_true rfl) (Nat.le_of_ble_eq_true rfl) (by decide) (by decide) (by first | exact Or.inl ⟨rfl, by omega⟩ | exact Or.inr ⟨rfl, by omega, by omega⟩)
  · skip
    subst hQ
    exact zthrow (cls := xI) (text := "there is no such clock") (ik := 112) (is := 132) (ic := 116) hx hb htr hown hX hS hP hD hA (hl.1.trans hml.symm) htab hlocks hts (by decide +kernel) (by decide +kernel) (List.mem_of_getElem? (i := 1) rfl) (List.mem_of_getElem? (i := 2) rfl) (fun w h => List.mem_cons_of_mem _ (List.mem_append_left _ (List.mem_append_right _ h))) zx_n2 zx_g2 (List.mem_of_getElem? (i := 6) rfl) dX7_use_11 dX7_use_14 dX7_use_15 dX7_use_17 dX7_use_20 (Nat.le_of_ble_eq_true rfl) (Nat.le_of_ble_eq_true rfl) (Nat.le_of_ble_eq_true rfl) (Nat.le_of_ble_eq_true rfl) (by decide) (by decide) (by first | exact Or.inl ⟨rfl, by omega⟩ | exact Or.inr ⟨rfl, by omega, by omega⟩)
def rmX7_release : Room := { frames := 6, cells := 1, slots := 6, locals := 90 }
set_option maxRecDepth 100000 in
set_option maxHeartbeats 4000000 in
theorem kX7_release (l : Launch) (dC : Nat → ClassId) (dI : Nat → Nat → Nat) (cI cJ cZ : ClassId) (q : Nat → Nat)  (pw : Int → Int) (co : Int → Int) (la : Int → Int) (vo : Int → Int) (cpar : Int → Int) (fr : Int → Int) (cdee : Int → Int) (use : Int → Int) (run : Int → Int) (nC : Int) (tdue : Int → Int) (tlat : Int → Int) (twk : Int → Int) (nT : Int) (edue : Int → Int) (elat : Int → Int) (ewk : Int → Int) (nE : Int) (len : Int → Int) (cnt : Int) (tin : Int → Int) (sp : Int) (pe : Int) (slp : Int) (late : Int) (srv : Int) (hv : Int → Int) (av : Int) (bd : Int) (sh : Int) (sc : Int → Int) (lt : Int → Int) (rule : Int) (now : Int) (st : Int) (asl : Int) (idl : Int → Int) (idn : Int) (par : Int → Int) (div : Int → Int) (dee : Int → Int) (x1 : Int) (hx1 : zR x1) (hst : 0 ≤ st ∧ st ≤ 3) (hpw : rgZ pw 4 1000) (hco : rgZ co 4 10000) (hla : rgZ la 4 100) (hnow : 0 ≤ now ∧ now ≤ 200000) (hasl : 0 ≤ asl ∧ asl ≤ now) (hid : idR len cnt idl idn) (hnC : 1 ≤ nC ∧ nC ≤ 8) (huse : rgZ use 8 9) : zXi l yX7_release wsX7_release rmX7_release (dC, dI) (zT cI cJ cZ) (wP cI cJ cZ q pw co la vo cpar fr cdee use run nC tdue tlat twk nT edue elat ewk nE len cnt tin sp pe slp late srv hv av bd sh sc lt rule now st asl idl idn par div dee) [.ref (q 0), .int (iI x1)] (fun (r9 : Int) (u9 : Int × Int × Int × (Int → Int) × Int × (Int → Int) × Int) => r9 = use x1 - 1 ∧ (((0 ≤ x1 ∧ x1 < nC) ∧ 0 < use x1) ∧ ((u9.1), (u9.2.1), (u9.2.2.1), (u9.2.2.2.1), (u9.2.2.2.2.1)) = scF pw la st asl now sp pe idl idn ∧ idR (u9.2.2.2.2.2.1) (u9.2.2.2.2.2.2) (u9.2.2.2.1) (u9.2.2.2.2.1))) (fun u9 : Int × Int × Int × (Int → Int) × Int × (Int → Int) × Int => wP cI cJ cZ q pw co la vo cpar fr cdee (uZ use x1 (use x1 - 1)) run nC tdue tlat twk nT edue elat ewk nE (u9.2.2.2.2.2.1) (u9.2.2.2.2.2.2) tin (u9.2.1) (u9.2.2.1) slp late srv hv av bd sh sc lt rule now (u9.1) asl (u9.2.2.2.1) (u9.2.2.2.2.1) par div dee) (fun E => (E = xI ∧ ¬ (0 ≤ x1 ∧ x1 < nC)) ∨ (E = xS ∧ (0 ≤ x1 ∧ x1 < nC) ∧ ¬ 0 < use x1)) := by
  refine zentx_i (cc := cX7_release) (maxL := 2) (ret := (some .int)) (by decide +kernel) rfl (Nat.le_of_ble_eq_true rfl) ?_
  intro p e s m below meth c A ls htr htab hX hE hP hK hA hD hS hl
  obtain ⟨hx, hb, hr, hml, hown, hts, hlocks, hmn⟩ := hE
  have hinX7 : ∀ w ∈ u_ws RX7 TX7 13, w ∈ wsX7_release := by decide +kernel
  have hinX1 : ∀ w ∈ u_ws RX1 TX1 6, w ∈ wsX7_release := by decide +kernel
  have hinX6 : ∀ w ∈ u_ws RX6 TX6 3, w ∈ wsX7_release := by decide +kernel
  have hinX4 : ∀ w ∈ u_ws RX4 TX4 6, w ∈ wsX7_release := by decide +kernel
  have hinX2 : ∀ w ∈ u_ws RX2 TX2 2, w ∈ wsX7_release := by decide +kernel
  have hl : lv_has ls 2 [(0, .ref (q 0)), (1, .int (iI x1))] := hl
  refine z_gen (fun Q hQ => ?_)
  refine lv_aload_n hx hb dX7_release_0 rfl (lv_at hl 0 rfl) ?_
  refine va_get (D := (dC, dI)) (ci := 7) (v := .ref (q 6)) (C := RX7) (T := TX7) (N := 13) hx hb hts hinX7 hown hK.1 hP 0 rfl rfl 2 (by decide) (hts _ (List.mem_of_getElem? (i := 5) rfl)) (fun _ h9 => h9) rfl dX7_release_1 ?_
  refine lv_iload_n hx hb dX7_release_4 rfl (lv_at hl 1 rfl) ?_
  refine zc_pi (va_runV (As := [.int (iI x1)]) (rest := []) ⟨hx, hb, hml, hown, hts⟩ (kX1_has l dC dI cI cJ cZ (q 6) (q 7) (q 8) (q 9) (q 10) (q 11) cpar fr cdee use run nC x1 (by first | assumption | omega | exact b2i_01 _) (by first | assumption | omega | exact b2i_01 _)) (cwV 1 hts gX7_release_X1_has rfl rfl rfl (by decide +kernel) ⟨Nat.le_of_ble_eq_true rfl, Nat.le_of_ble_eq_true rfl⟩) (zqV hK hP [6, 7, 8, 9, 10, 11] rfl 6 rfl rfl) rfl rfl hl.1 rfl (lv_room (Nat.le_of_ble_eq_true rfl)) dX7_release_5 ⟨Nat.le_of_ble_eq_true rfl, Nat.le_of_ble_eq_true rfl⟩) ?_
  refine zb_fne (tgt := 21) hx hb dX7_release_8 (by decide) (fun c_1 => ?_) (fun c_1 => ?_)
  · skip
    refine lv_aload_n hx hb dX7_release_21 rfl (lv_at hl 0 rfl) ?_
    refine va_get (D := (dC, dI)) (ci := 7) (v := .ref (q 6)) (C := RX7) (T := TX7) (N := 13) hx hb hts hinX7 hown hK.1 hP 0 rfl rfl 2 (by decide) (hts _ (List.mem_of_getElem? (i := 5) rfl)) (fun _ h9 => h9) rfl dX7_release_22 ?_
    refine lv_iload_n hx hb dX7_release_25 rfl (lv_at hl 1 rfl) ?_
    refine zc_pi (va_runV (As := [.int (iI x1)]) (rest := []) ⟨hx, hb, hml, hown, hts⟩ (kX1_usesOf l dC dI cI cJ cZ (q 6) (q 7) (q 8) (q 9) (q 10) (q 11) cpar fr cdee use run nC x1 (by first | assumption | omega | exact b2i_01 _)) (cwV 1 hts gX7_release_X1_usesOf rfl rfl rfl (by decide +kernel) ⟨Nat.le_of_ble_eq_true rfl, Nat.le_of_ble_eq_true rfl⟩) (zqV hK hP [6, 7, 8, 9, 10, 11] rfl 6 rfl rfl) rfl rfl hl.1 rfl (lv_room (Nat.le_of_ble_eq_true rfl)) dX7_release_26 ⟨Nat.le_of_ble_eq_true rfl, Nat.le_of_ble_eq_true rfl⟩) ?_
    have e_2 := huse x1 (by omega) (by omega)
    refine zi_fgt (tgt := 42) hx hb (by omega) dX7_release_29 (by decide) (fun c_3 => ?_) (fun c_3 => ?_)
    · skip
      refine lv_aload_n hx hb dX7_release_42 rfl (lv_at hl 0 rfl) ?_
      refine zc_v (va_runV (As := []) (rest := []) ⟨hx, hb, hml, hown, hts⟩ (kX7_wakeForCall l dC dI cI cJ cZ q pw co la vo cpar fr cdee use run nC tdue tlat twk nT edue elat ewk nE len cnt tin sp pe slp late srv hv av bd sh sc lt rule now st asl idl idn par div dee (by first | assumption | omega | exact b2i_01 _) (by first | assumption | omega | exact b2i_01 _) (by first | assumption | omega | exact b2i_01 _) (by first | assumption | omega | exact b2i_01 _) (by first | assumption | omega | exact b2i_01 _) (by first | assumption | omega | exact b2i_01 _) (by first | assumption | omega | exact b2i_01 _) s.heap.size) (cwV 0 hts gX7_release_X7_wakeForCall rfl rfl rfl (by decide +kernel) ⟨Nat.le_of_ble_eq_true rfl, Nat.le_of_ble_eq_true rfl⟩) (zpV hK hP hD [0, 1, 2, 3, 4, 5, 6, 7, 8, 9, 10, 11, 12, 13, 14, 15, 16, 17, 18, 19, 20, 21, 22, 23, 24, 25, 26, 27, 28] rfl rfl 0 rfl rfl) rfl rfl hl.1 rfl (lv_room (Nat.le_of_ble_eq_true rfl)) dX7_release_43 ⟨Nat.le_of_ble_eq_true rfl, Nat.le_of_ble_eq_true rfl⟩) hP hD hS hA [0, 1, 2, 3, 4, 5, 6, 7, 8, 9, 10, 11, 12, 13, 14, 15, 16, 17, 18, 19, 20, 21, 22, 23, 24, 25, 26, 27, 28] [] rfl rfl rfl (by decide) (fun u_5 H locs r_4 hP hD hS => ?_)
      obtain ⟨stx_7, spx_8, pex_9, idlx_10, idnx_11, lenx_12, cntx_13⟩ := u_5
      have r_4 : (stx_7, spx_8, pex_9, idlx_10, idnx_11) = scF pw la st asl now sp pe idl idn ∧ idR lenx_12 cntx_13 idlx_10 idnx_11 := r_4
      have hP : va_P (dC, dI) vwCl (wP cI cJ cZ q pw co la vo cpar fr cdee use run nC tdue tlat twk nT edue elat ewk nE lenx_12 cntx_13 tin spx_8 pex_9 slp late srv hv av bd sh sc lt rule now stx_7 asl idlx_10 idnx_11 par div dee) H := hP
      have hD : va_D A (wP cI cJ cZ q pw co la vo cpar fr cdee use run nC tdue tlat twk nT edue elat ewk nE lenx_12 cntx_13 tin spx_8 pex_9 slp late srv hv av bd sh sc lt rule now stx_7 asl idlx_10 idnx_11 par div dee) := hD
      obtain ⟨hsc9, hid9⟩ := r_4
      refine lv_aload_n hx hb dX7_release_46 rfl (lv_at hl 0 rfl) ?_
      refine va_get (D := (dC, dI)) (ci := 7) (v := .ref (q 6)) (C := RX7) (T := TX7) (N := 13) hx hb hts hinX7 hown hK.1 hP 0 rfl rfl 2 (by decide) (hts _ (List.mem_of_getElem? (i := 5) rfl)) (fun _ h9 => h9) rfl dX7_release_47 ?_
      refine lv_iload_n hx hb dX7_release_50 rfl (lv_at hl 1 rfl) ?_
      refine lv_iconst (v := iI (-1)) hx hb dX7_release_51 rfl ?_
      refine zc_i (va_runV (As := [.int (iI x1), .int (iI (-1))]) (rest := []) ⟨hx, hb, hml, hown, hts⟩ (kX1_changeUses l dC dI cI cJ cZ (q 6) (q 7) (q 8) (q 9) (q 10) (q 11) cpar fr cdee use run nC x1 (-1) (by first | assumption | omega | exact b2i_01 _) H.size) (cwV 2 hts gX7_release_X1_changeUses rfl rfl rfl (by decide +kernel) ⟨Nat.le_of_ble_eq_true rfl, Nat.le_of_ble_eq_true rfl⟩) (zpV hK hP hD [6, 7, 8, 9, 10, 11] rfl rfl 6 rfl rfl) rfl rfl hl.1 rfl (lv_room (Nat.le_of_ble_eq_true rfl)) dX7_release_52 ⟨Nat.le_of_ble_eq_true rfl, Nat.le_of_ble_eq_true rfl⟩) hP hD hS hA [6, 7, 8, 9, 10, 11] [0, 1, 2, 3, 4, 5, 12, 13, 14, 15, 16, 17, 18, 19, 20, 21, 22, 23, 24, 25, 26, 27, 28] rfl rfl rfl (by decide) (fun v_16 u_15 H locs r_14 hP hD hS => ?_)
      refine ze_i r_14 ?_
      have hP : va_P (dC, dI) vwCl (wP cI cJ cZ q pw co la vo cpar fr cdee (uZ use x1 (use x1 + (-1))) run nC tdue tlat twk nT edue elat ewk nE lenx_12 cntx_13 tin spx_8 pex_9 slp late srv hv av bd sh sc lt rule now stx_7 asl idlx_10 idnx_11 par div dee) H := hP.sub [0, 1, 2, 3, 4, 5, 23, 24, 25, 26, 27, 28, 6, 7, 8, 9, 10, 11, 12, 13, 14, 15, 16, 17, 18, 19, 20, 21, 22] (z_fm rfl)
      have hD : va_D A (wP cI cJ cZ q pw co la vo cpar fr cdee (uZ use x1 (use x1 + (-1))) run nC tdue tlat twk nT edue elat ewk nE lenx_12 cntx_13 tin spx_8 pex_9 slp late srv hv av bd sh sc lt rule now stx_7 asl idlx_10 idnx_11 par div dee) := hD.sub [0, 1, 2, 3, 4, 5, 23, 24, 25, 26, 27, 28, 6, 7, 8, 9, 10, 11, 12, 13, 14, 15, 16, 17, 18, 19, 20, 21, 22] (by decide) rfl
      subst hQ
      refine vx_ret ?_
      have w_17 : (uZ use x1 (use x1 - 1)) = (uZ use x1 (use x1 + (-1))) := by first | rfl | (congr 1; omega)
      have hP : va_P (dC, dI) vwCl (wP cI cJ cZ q pw co la vo cpar fr cdee (uZ use x1 (use x1 - 1)) run nC tdue tlat twk nT edue elat ewk nE lenx_12 cntx_13 tin spx_8 pex_9 slp late srv hv av bd sh sc lt rule now stx_7 asl idlx_10 idnx_11 par div dee) H := by rw [w_17]; exact hP
      have hD : va_D A (wP cI cJ cZ q pw co la vo cpar fr cdee (uZ use x1 (use x1 - 1)) run nC tdue tlat twk nT edue elat ewk nE lenx_12 cntx_13 tin spx_8 pex_9 slp late srv hv av bd sh sc lt rule now stx_7 asl idlx_10 idnx_11 par div dee) := by rw [w_17]; exact hD
      refine W.widen (k := 1) (n := 6) (by decide) (by decide) ?_
      exact zret_i (W1 := fun u9 : Int × Int × Int × (Int → Int) × Int × (Int → Int) × Int => wP cI cJ cZ q pw co la vo cpar fr cdee (uZ use x1 (use x1 - 1)) run nC tdue tlat twk nT edue elat ewk nE (u9.2.2.2.2.2.1) (u9.2.2.2.2.2.2) tin (u9.2.1) (u9.2.2.1) slp late srv hv av bd sh sc lt rule now (u9.1) asl (u9.2.2.2.1) (u9.2.2.2.2.1) par div dee) (stx_7, spx_8, pex_9, idlx_10, idnx_11, lenx_12, cntx_13) hx hb hr hP hD hS hlocks dX7_release_55 (by exact ⟨by omega, by omega, hsc9, hid9⟩)
    · skip
      subst hQ
      exact zthrow (cls := xS) (text := "the clock is not used") (ik := 123) (is := 143) (ic := 127) hx hb htr hown hX hS hP hD hA (hl.1.trans hml.symm) htab hlocks hts (by decide +kernel) (by decide +kernel) (List.mem_of_getElem? (i := 3) rfl) (List.mem_of_getElem? (i := 4) rfl) (fun w h => List.mem_cons_of_mem _ (List.mem_append_right _ h)) zx_n3 zx_g3 (List.mem_of_getElem? (i := 8) rfl) dX7_release_32 dX7_release_35 dX7_release_36 dX7_release_38 dX7_release_41 (Nat.le_of_ble_eq_true rfl) (Nat.le_of_ble_eq_true rfl) (Nat.le_of_ble_eq_true rfl) (Nat.le_of_ble_eq_true rfl) (by decide) (by decide) (by first | exact Or.inl ⟨rfl, by omega⟩ | exact Or.inr ⟨rfl, by omega, by omega⟩)
  · skip
    subst hQ
    exact zthrow (cls := xI) (text := "there is no such clock") (ik := 112) (is := 132) (ic := 116) hx hb htr hown hX hS hP hD hA (hl.1.trans hml.symm) htab hlocks hts (by decide +kernel) (by decide +kernel) (List.mem_of_getElem? (i := 1) rfl) (List.mem_of_getElem? (i := 2) rfl) (fun w h => List.mem_cons_of_mem _ (List.mem_append_left _ (List.mem_append_right _ h))) zx_n2 zx_g2 (List.mem_of_getElem? (i := 6) rfl) dX7_release_11 dX7_release_14 dX7_release_15 dX7_release_17 dX7_release_20 (Nat.le_of_ble_eq_true rfl) (Nat.le_of_ble_eq_true rfl) (Nat.le_of_ble_eq_true rfl) (Nat.le_of_ble_eq_true rfl) (by decide) (by decide) (by first | exact Or.inl ⟨rfl, by omega⟩ | exact Or.inr ⟨rfl, by omega, by omega⟩)
def rmX7_runs : Room := { frames := 6, cells := 1, slots := 6, locals := 90 }
set_option maxRecDepth 100000 in
set_option maxHeartbeats 4000000 in
theorem kX7_runs (l : Launch) (dC : Nat → ClassId) (dI : Nat → Nat → Nat) (cI cJ cZ : ClassId) (q : Nat → Nat)  (pw : Int → Int) (co : Int → Int) (la : Int → Int) (vo : Int → Int) (cpar : Int → Int) (fr : Int → Int) (cdee : Int → Int) (use : Int → Int) (run : Int → Int) (nC : Int) (tdue : Int → Int) (tlat : Int → Int) (twk : Int → Int) (nT : Int) (edue : Int → Int) (elat : Int → Int) (ewk : Int → Int) (nE : Int) (len : Int → Int) (cnt : Int) (tin : Int → Int) (sp : Int) (pe : Int) (slp : Int) (late : Int) (srv : Int) (hv : Int → Int) (av : Int) (bd : Int) (sh : Int) (sc : Int → Int) (lt : Int → Int) (rule : Int) (now : Int) (st : Int) (asl : Int) (idl : Int → Int) (idn : Int) (par : Int → Int) (div : Int → Int) (dee : Int → Int) (x1 : Int) (hx1 : zR x1) (hnC : 1 ≤ nC ∧ nC ≤ 8) (hcp : ∀ c : Int, 1 ≤ c → c < nC → 0 ≤ cpar c ∧ cpar c < c) (huse : rgZ use 8 9) (hrun : tfZ run) : zXi l yX7_runs wsX7_runs rmX7_runs (dC, dI) (zT cI cJ cZ) (wP cI cJ cZ q pw co la vo cpar fr cdee use run nC tdue tlat twk nT edue elat ewk nE len cnt tin sp pe slp late srv hv av bd sh sc lt rule now st asl idl idn par div dee) [.ref (q 0), .int (iI x1)] (fun (r9 : Int) (_ : Unit) => r9 = b2i (rnZ cpar (nC - 1) (r0Z use nC run) x1 ≠ 0) ∧ ((0 ≤ x1 ∧ x1 < nC))) (fun _ : Unit => wP cI cJ cZ q pw co la vo cpar fr cdee use (rnZ cpar (nC - 1) (r0Z use nC run)) nC tdue tlat twk nT edue elat ewk nE len cnt tin sp pe slp late srv hv av bd sh sc lt rule now st asl idl idn par div dee) (fun E => E = xI ∧ ¬ (0 ≤ x1 ∧ x1 < nC)) := by
  refine zentx_i (cc := cX7_runs) (maxL := 2) (ret := (some .boolean)) (by decide +kernel) rfl (Nat.le_of_ble_eq_true rfl) ?_
  intro p e s m below meth c A ls htr htab hX hE hP hK hA hD hS hl
  obtain ⟨hx, hb, hr, hml, hown, hts, hlocks, hmn⟩ := hE
  have hinX7 : ∀ w ∈ u_ws RX7 TX7 13, w ∈ wsX7_runs := by decide +kernel
  have hinX1 : ∀ w ∈ u_ws RX1 TX1 6, w ∈ wsX7_runs := by decide +kernel
  have hl : lv_has ls 2 [(0, .ref (q 0)), (1, .int (iI x1))] := hl
  refine z_gen (fun Q hQ => ?_)
  refine lv_aload_n hx hb dX7_runs_0 rfl (lv_at hl 0 rfl) ?_
  refine va_get (D := (dC, dI)) (ci := 7) (v := .ref (q 6)) (C := RX7) (T := TX7) (N := 13) hx hb hts hinX7 hown hK.1 hP 0 rfl rfl 2 (by decide) (hts _ (List.mem_of_getElem? (i := 3) rfl)) (fun _ h9 => h9) rfl dX7_runs_1 ?_
  refine lv_iload_n hx hb dX7_runs_4 rfl (lv_at hl 1 rfl) ?_
  refine zc_pi (va_runV (As := [.int (iI x1)]) (rest := []) ⟨hx, hb, hml, hown, hts⟩ (kX1_has l dC dI cI cJ cZ (q 6) (q 7) (q 8) (q 9) (q 10) (q 11) cpar fr cdee use run nC x1 (by first | assumption | omega | exact b2i_01 _) (by first | assumption | omega | exact b2i_01 _)) (cwV 1 hts gX7_runs_X1_has rfl rfl rfl (by decide +kernel) ⟨Nat.le_of_ble_eq_true rfl, Nat.le_of_ble_eq_true rfl⟩) (zqV hK hP [6, 7, 8, 9, 10, 11] rfl 6 rfl rfl) rfl rfl hl.1 rfl (lv_room (Nat.le_of_ble_eq_true rfl)) dX7_runs_5 ⟨Nat.le_of_ble_eq_true rfl, Nat.le_of_ble_eq_true rfl⟩) ?_
  refine zb_fne (tgt := 21) hx hb dX7_runs_8 (by decide) (fun c_1 => ?_) (fun c_1 => ?_)
  · skip
    refine lv_aload_n hx hb dX7_runs_21 rfl (lv_at hl 0 rfl) ?_
    refine va_get (D := (dC, dI)) (ci := 7) (v := .ref (q 6)) (C := RX7) (T := TX7) (N := 13) hx hb hts hinX7 hown hK.1 hP 0 rfl rfl 2 (by decide) (hts _ (List.mem_of_getElem? (i := 3) rfl)) (fun _ h9 => h9) rfl dX7_runs_22 ?_
    refine lv_iload_n hx hb dX7_runs_25 rfl (lv_at hl 1 rfl) ?_
    refine zc_i (va_runV (As := [.int (iI x1)]) (rest := []) ⟨hx, hb, hml, hown, hts⟩ (kX1_isRunning l dC dI cI cJ cZ (q 6) (q 7) (q 8) (q 9) (q 10) (q 11) cpar fr cdee use run nC x1 (by first | assumption | omega | exact b2i_01 _) (by first | assumption | omega | exact b2i_01 _) (by first | assumption | omega | exact b2i_01 _) (by first | assumption | omega | exact b2i_01 _) (by first | assumption | omega | exact b2i_01 _) s.heap.size) (cwV 1 hts gX7_runs_X1_isRunning rfl rfl rfl (by decide +kernel) ⟨Nat.le_of_ble_eq_true rfl, Nat.le_of_ble_eq_true rfl⟩) (zpV hK hP hD [6, 7, 8, 9, 10, 11] rfl rfl 6 rfl rfl) rfl rfl hl.1 rfl (lv_room (Nat.le_of_ble_eq_true rfl)) dX7_runs_26 ⟨Nat.le_of_ble_eq_true rfl, Nat.le_of_ble_eq_true rfl⟩) hP hD hS hA [6, 7, 8, 9, 10, 11] [0, 1, 2, 3, 4, 5, 12, 13, 14, 15, 16, 17, 18, 19, 20, 21, 22, 23, 24, 25, 26, 27, 28] rfl rfl rfl (by decide) (fun v_4 u_3 H locs r_2 hP hD hS => ?_)
    refine ze_i r_2 ?_
    have hP : va_P (dC, dI) vwCl (wP cI cJ cZ q pw co la vo cpar fr cdee use (rnZ cpar (nC - 1) (r0Z use nC run)) nC tdue tlat twk nT edue elat ewk nE len cnt tin sp pe slp late srv hv av bd sh sc lt rule now st asl idl idn par div dee) H := hP.sub [0, 1, 2, 3, 4, 5, 23, 24, 25, 26, 27, 28, 6, 7, 8, 9, 10, 11, 12, 13, 14, 15, 16, 17, 18, 19, 20, 21, 22] (z_fm rfl)
    have hD : va_D A (wP cI cJ cZ q pw co la vo cpar fr cdee use (rnZ cpar (nC - 1) (r0Z use nC run)) nC tdue tlat twk nT edue elat ewk nE len cnt tin sp pe slp late srv hv av bd sh sc lt rule now st asl idl idn par div dee) := hD.sub [0, 1, 2, 3, 4, 5, 23, 24, 25, 26, 27, 28, 6, 7, 8, 9, 10, 11, 12, 13, 14, 15, 16, 17, 18, 19, 20, 21, 22] (by decide) rfl
    subst hQ
    refine vx_ret ?_
    refine W.widen (k := 1) (n := 6) (by decide) (by decide) ?_
    exact zret_z (W1 := fun _ : Unit => wP cI cJ cZ q pw co la vo cpar fr cdee use (rnZ cpar (nC - 1) (r0Z use nC run)) nC tdue tlat twk nT edue elat ewk nE len cnt tin sp pe slp late srv hv av bd sh sc lt rule now st asl idl idn par div dee) () hx hb hr hP hD hS hlocks dX7_runs_29 (b2i_01 _) (by exact ⟨rfl, by omega⟩)
  · skip
    subst hQ
    exact zthrow (cls := xI) (text := "there is no such clock") (ik := 112) (is := 132) (ic := 116) hx hb htr hown hX hS hP hD hA (hl.1.trans hml.symm) htab hlocks hts (by decide +kernel) (by decide +kernel) (List.mem_of_getElem? (i := 1) rfl) (List.mem_of_getElem? (i := 2) rfl) (fun w h => List.mem_cons_of_mem _ (List.mem_append_right _ h)) zx_n2 zx_g2 (List.mem_of_getElem? (i := 6) rfl) dX7_runs_11 dX7_runs_14 dX7_runs_15 dX7_runs_17 dX7_runs_20 (Nat.le_of_ble_eq_true rfl) (Nat.le_of_ble_eq_true rfl) (Nat.le_of_ble_eq_true rfl) (Nat.le_of_ble_eq_true rfl) (by decide) (by decide) (by first | exact ⟨rfl, by omega⟩ | omega)
def rmX7_breakEven : Room := { frames := 6, cells := 1, slots := 6, locals := 90 }
set_option maxRecDepth 100000 in
set_option maxHeartbeats 4000000 in
theorem kX7_breakEven (l : Launch) (dC : Nat → ClassId) (dI : Nat → Nat → Nat) (cI cJ cZ : ClassId) (q : Nat → Nat)  (pw : Int → Int) (co : Int → Int) (la : Int → Int) (vo : Int → Int) (cpar : Int → Int) (fr : Int → Int) (cdee : Int → Int) (use : Int → Int) (run : Int → Int) (nC : Int) (tdue : Int → Int) (tlat : Int → Int) (twk : Int → Int) (nT : Int) (edue : Int → Int) (elat : Int → Int) (ewk : Int → Int) (nE : Int) (len : Int → Int) (cnt : Int) (tin : Int → Int) (sp : Int) (pe : Int) (slp : Int) (late : Int) (srv : Int) (hv : Int → Int) (av : Int) (bd : Int) (sh : Int) (sc : Int → Int) (lt : Int → Int) (rule : Int) (now : Int) (st : Int) (asl : Int) (idl : Int → Int) (idn : Int) (par : Int → Int) (div : Int → Int) (dee : Int → Int) (x1 : Int) (hx1 : zR x1) (hpw : rgZ pw 4 1000) (hco : rgZ co 4 10000) (hla : rgZ la 4 100) : zXi l yX7_breakEven wsX7_breakEven rmX7_breakEven (dC, dI) (zT cI cJ cZ) (wP cI cJ cZ q pw co la vo cpar fr cdee use run nC tdue tlat twk nT edue elat ewk nE len cnt tin sp pe slp late srv hv av bd sh sc lt rule now st asl idl idn par div dee) [.ref (q 0), .int (iI x1)] (fun (r9 : Int) (_ : Unit) => r9 = evA pw co la x1 ∧ ((1 ≤ x1 ∧ x1 ≤ 3))) (fun _ : Unit => wP cI cJ cZ q pw co la vo cpar fr cdee use run nC tdue tlat twk nT edue elat ewk nE len cnt tin sp pe slp late srv hv av bd sh sc lt rule now st asl idl idn par div dee) (fun E => E = xA ∧ ¬ (1 ≤ x1 ∧ x1 ≤ 3)) := by
  refine zentx_i (cc := cX7_breakEven) (maxL := 2) (ret := (some .int)) (by decide +kernel) rfl (Nat.le_of_ble_eq_true rfl) ?_
  intro p e s m below meth c A ls htr htab hX hE hP hK hA hD hS hl
  obtain ⟨hx, hb, hr, hml, hown, hts, hlocks, hmn⟩ := hE
  have hinX7 : ∀ w ∈ u_ws RX7 TX7 13, w ∈ wsX7_breakEven := by decide +kernel
  have hinX6 : ∀ w ∈ u_ws RX6 TX6 3, w ∈ wsX7_breakEven := by decide +kernel
  have hl : lv_has ls 2 [(0, .ref (q 0)), (1, .int (iI x1))] := hl
  refine z_gen (fun Q hQ => ?_)
  refine lv_iload_n hx hb dX7_breakEven_0 rfl (lv_at hl 1 rfl) ?_
  refine lv_iconst (v := iI 1) hx hb dX7_breakEven_1 rfl ?_
  refine lv_iconst (v := iI 3) hx hb dX7_breakEven_2 rfl ?_
  refine zc_pi (va_runS (As := [.int (iI x1), .int (iI 1), .int (iI 3)]) (rest := []) ⟨hx, hb, hml, hown, hts⟩ (kX7_isWithin l dC dI cI cJ cZ x1 1 3 (by first | assumption | omega | exact b2i_01 _) (by first | assumption | omega | exact b2i_01 _) (by first | assumption | omega | exact b2i_01 _)) (va_cwS 3 hts gX7_breakEven_X7_isWithin rfl rfl rfl (by decide +kernel) ⟨Nat.le_of_ble_eq_true rfl, Nat.le_of_ble_eq_true rfl⟩) (zqS hK hP [] rfl) rfl rfl hl.1 rfl (lv_room (Nat.le_of_ble_eq_true rfl)) dX7_breakEven_3 ⟨Nat.le_of_ble_eq_true rfl, Nat.le_of_ble_eq_true rfl⟩) ?_
  refine zb_fne (tgt := 19) hx hb dX7_breakEven_6 (by decide) (fun c_1 => ?_) (fun c_1 => ?_)
  · skip
    refine lv_aload_n hx hb dX7_breakEven_19 rfl (lv_at hl 0 rfl) ?_
    refine va_get (D := (dC, dI)) (ci := 7) (v := .ref (q 1)) (C := RX7) (T := TX7) (N := 13) hx hb hts hinX7 hown hK.1 hP 0 rfl rfl 0 (by decide) (hts _ (List.mem_of_getElem? (i := 3) rfl)) (fun _ h9 => h9) rfl dX7_breakEven_20 ?_
    refine lv_iload_n hx hb dX7_breakEven_23 rfl (lv_at hl 1 rfl) ?_
    refine zc_pi (va_runV (As := [.int (iI x1)]) (rest := []) ⟨hx, hb, hml, hown, hts⟩ (kX6_leastWorthwhile l dC dI cI cJ cZ (q 1) (q 2) (q 3) (q 4) pw co la x1 (by first | assumption | omega | exact b2i_01 _) (by first | assumption | omega | exact b2i_01 _) (by first | assumption | omega | exact b2i_01 _) (by first | assumption | omega | exact b2i_01 _)) (cwV 1 hts gX7_breakEven_X6_leastWorthwhile rfl rfl rfl (by decide +kernel) ⟨Nat.le_of_ble_eq_true rfl, Nat.le_of_ble_eq_true rfl⟩) (zqV hK hP [1, 2, 3, 4] rfl 1 rfl rfl) rfl rfl hl.1 rfl (lv_room (Nat.le_of_ble_eq_true rfl)) dX7_breakEven_24 ⟨Nat.le_of_ble_eq_true rfl, Nat.le_of_ble_eq_true rfl⟩) ?_
    subst hQ
    refine vx_ret ?_
    refine W.widen (k := 1) (n := 6) (by decide) (by decide) ?_
    exact zret_i (W1 := fun _ : Unit => wP cI cJ cZ q pw co la vo cpar fr cdee use run nC tdue tlat twk nT edue elat ewk nE len cnt tin sp pe slp late srv hv av bd sh sc lt rule now st asl idl idn par div dee) () hx hb hr hP hD hS hlocks dX7_breakEven_27 (by exact ⟨rfl, by omega⟩)
  · skip
    subst hQ
    exact zthrow (cls := xA) (text := "state is out of range") (ik := 82) (is := 160) (ic := 86) hx hb htr hown hX hS hP hD hA (hl.1.trans hml.symm) htab hlocks hts (by decide +kernel) (by decide +kernel) (List.mem_of_getElem? (i := 1) rfl) (List.mem_of_getElem? (i := 2) rfl) (fun w h => List.mem_cons_of_mem _ (List.mem_append_right _ h)) zx_n1 zx_g1 (List.mem_of_getElem? (i := 9) rfl) dX7_breakEven_9 dX7_breakEven_12 dX7_breakEven_13 dX7_breakEven_15 dX7_breakEven_18 (Nat.le_of_ble_eq_true rfl) (Nat.le_of_ble_eq_true rfl) (Nat.le_of_ble_eq_true rfl) (Nat.le_of_ble_eq_true rfl) (by decide) (by decide) (by first | exact ⟨rfl, by omega⟩ | omega)
def rmX7_schedule : Room := { frames := 6, cells := 1, slots := 6, locals := 90 }
set_option maxRecDepth 100000 in
set_option maxHeartbeats 4000000 in
theorem kX7_schedule (l : Launch) (dC : Nat → ClassId) (dI : Nat → Nat → Nat) (cI cJ cZ : ClassId) (q : Nat → Nat)  (pw : Int → Int) (co : Int → Int) (la : Int → Int) (vo : Int → Int) (cpar : Int → Int) (fr : Int → Int) (cdee : Int → Int) (use : Int → Int) (run : Int → Int) (nC : Int) (tdue : Int → Int) (tlat : Int → Int) (twk : Int → Int) (nT : Int) (edue : Int → Int) (elat : Int → Int) (ewk : Int → Int) (nE : Int) (len : Int → Int) (cnt : Int) (tin : Int → Int) (sp : Int) (pe : Int) (slp : Int) (late : Int) (srv : Int) (hv : Int → Int) (av : Int) (bd : Int) (sh : Int) (sc : Int → Int) (lt : Int → Int) (rule : Int) (now : Int) (st : Int) (asl : Int) (idl : Int → Int) (idn : Int) (par : Int → Int) (div : Int → Int) (dee : Int → Int) (x1 x2 x3 : Int) (hx1 : zR x1) (hx2 : zR x2) (hx3 : zR x3) (hst : 0 ≤ st ∧ st ≤ 3) (hpw : rgZ pw 4 1000) (hco : rgZ co 4 10000) (hla : rgZ la 4 100) (hnow : 0 ≤ now ∧ now ≤ 200000) (hasl : 0 ≤ asl ∧ asl ≤ now) (hid : idR len cnt idl idn) (hnT : 0 ≤ nT ∧ nT ≤ 12) : zXi l yX7_schedule wsX7_schedule rmX7_schedule (dC, dI) (zT cI cJ cZ) (wP cI cJ cZ q pw co la vo cpar fr cdee use run nC tdue tlat twk nT edue elat ewk nE len cnt tin sp pe slp late srv hv av bd sh sc lt rule now st asl idl idn par div dee) [.ref (q 0), .int (iI x1), .int (iI x2), .int (iI x3)] (fun (r9 : Int) (u9 : Int × Int × Int × (Int → Int) × Int × (Int → Int) × Int) => r9 = nT + 1 ∧ ((((now ≤ x1 ∧ x1 ≤ now + 1000) ∧ (0 ≤ x2 ∧ x2 ≤ 500) ∧ (1 ≤ x3 ∧ x3 ≤ 50)) ∧ nT < 12) ∧ ((u9.1), (u9.2.1), (u9.2.2.1), (u9.2.2.2.1), (u9.2.2.2.2.1)) = scF pw la st asl now sp pe idl idn ∧ idR (u9.2.2.2.2.2.1) (u9.2.2.2.2.2.2) (u9.2.2.2.1) (u9.2.2.2.2.1))) (fun u9 : Int × Int × Int × (Int → Int) × Int × (Int → Int) × Int => wP cI cJ cZ q pw co la vo cpar fr cdee use run nC (uZ tdue nT x1) (uZ tlat nT (x1 + x2)) (uZ twk nT x3) (nT + 1) edue elat ewk nE (u9.2.2.2.2.2.1) (u9.2.2.2.2.2.2) tin (u9.2.1) (u9.2.2.1) slp late srv hv av bd sh sc lt rule now (u9.1) asl (u9.2.2.2.1) (u9.2.2.2.2.1) par div dee) (fun E => (E = xA ∧ ¬ ((now ≤ x1 ∧ x1 ≤ now + 1000) ∧ (0 ≤ x2 ∧ x2 ≤ 500) ∧ (1 ≤ x3 ∧ x3 ≤ 50))) ∨ (E = xS ∧ ((now ≤ x1 ∧ x1 ≤ now + 1000) ∧ (0 ≤ x2 ∧ x2 ≤ 500) ∧ (1 ≤ x3 ∧ x3 ≤ 50)) ∧ ¬ nT < 12)) := by
  refine zentx_i (cc := cX7_schedule) (maxL := 4) (ret := (some .int)) (by decide +kernel) rfl (Nat.le_of_ble_eq_true rfl) ?_
  intro p e s m below meth c A ls htr htab hX hE hP hK hA hD hS hl
  obtain ⟨hx, hb, hr, hml, hown, hts, hlocks, hmn⟩ := hE
  have hinX7 : ∀ w ∈ u_ws RX7 TX7 13, w ∈ wsX7_schedule := by decide +kernel
  have hinX3 : ∀ w ∈ u_ws RX3 TX3 4, w ∈ wsX7_schedule := by decide +kernel
  have hinX6 : ∀ w ∈ u_ws RX6 TX6 3, w ∈ wsX7_schedule := by decide +kernel
  have hinX4 : ∀ w ∈ u_ws RX4 TX4 6, w ∈ wsX7_schedule := by decide +kernel
  have hinX2 : ∀ w ∈ u_ws RX2 TX2 2, w ∈ wsX7_schedule := by decide +kernel
  have hl : lv_has ls 4 [(0, .ref (q 0)), (1, .int (iI x1)), (2, .int (iI x2)), (3, .int (iI x3))] := hl
  refine z_gen (fun Q hQ => ?_)
  refine lv_iload_n hx hb dX7_schedule_0 rfl (lv_at hl 1 rfl) ?_
  refine lv_aload_n hx hb dX7_schedule_1 rfl (lv_at hl 0 rfl) ?_
  refine va_get (D := (dC, dI)) (ci := 7) (v := .int (iI now)) (C := RX7) (T := TX7) (N := 13) hx hb hts hinX7 hown hK.1 hP 0 rfl rfl 10 (by decide) (hts _ (List.mem_of_getElem? (i := 5) rfl)) (fun _ h9 => h9) rfl dX7_schedule_2 ?_
  refine lv_aload_n hx hb dX7_schedule_5 rfl (lv_at hl 0 rfl) ?_
  refine va_get (D := (dC, dI)) (ci := 7) (v := .int (iI now)) (C := RX7) (T := TX7) (N := 13) hx hb hts hinX7 hown hK.1 hP 0 rfl rfl 10 (by decide) (hts _ (List.mem_of_getElem? (i := 5) rfl)) (fun _ h9 => h9) rfl dX7_schedule_6 ?_
  refine lv_sipush (v := iI 1000) hx hb dX7_schedule_9 (by decide) ?_
  refine zi_add hx hb dX7_schedule_12 ?_
  refine zc_pi (va_runS (As := [.int (iI x1), .int (iI now), .int (iI (now + 1000))]) (rest := []) ⟨hx, hb, hml, hown, hts⟩ (kX7_isWithin l dC dI cI cJ cZ x1 now (now + 1000) (by first | assumption | omega | exact b2i_01 _) (by first | assumption | omega | exact b2i_01 _) (by first | assumption | omega | exact b2i_01 _)) (va_cwS 3 hts gX7_schedule_X7_isWithin rfl rfl rfl (by decide +kernel) ⟨Nat.le_of_ble_eq_true rfl, Nat.le_of_ble_eq_true rfl⟩) (zqS hK hP [] rfl) rfl rfl hl.1 rfl (lv_room (Nat.le_of_ble_eq_true rfl)) dX7_schedule_13 ⟨Nat.le_of_ble_eq_true rfl, Nat.le_of_ble_eq_true rfl⟩) ?_
  refine zb_feq (tgt := 40) hx hb dX7_schedule_16 (by decide) (fun c_1 => ?_) (fun c_1 => ?_)
  · skip
    subst hQ
    exact zthrow (cls := xA) (text := "due, slack or work is out of range") (ik := 82) (is := 165) (ic := 86) hx hb htr hown hX hS hP hD hA (hl.1.trans hml.symm) htab hlocks hts (by decide +kernel) (by decide +kernel) (List.mem_of_getElem? (i := 1) rfl) (List.mem_of_getElem? (i := 2) rfl) (fun w h => List.mem_cons_of_mem _ (List.mem_append_left _ (List.mem_append_right _ h))) zx_n1 zx_g1 (List.mem_of_getElem? (i := 10) rfl) dX7_schedule_40 dX7_schedule_43 dX7_schedule_44 dX7_schedule_46 dX7_schedule_49 (Nat.le_of_ble_eq_true rfl) (Nat.le_of_ble_eq_true rfl) (Nat.le_of_ble_eq_true rfl) (Nat.le_of_ble_eq_true rfl) (by decide) (by decide) (by first | exact Or.inl ⟨rfl, by omega⟩ | exact Or.inr ⟨rfl, by omega, by omega⟩)
  · skip
    refine lv_iload_n hx hb dX7_schedule_19 rfl (lv_at hl 2 rfl) ?_
    refine lv_iconst (v := iI 0) hx hb dX7_schedule_20 rfl ?_
    refine lv_sipush (v := iI 500) hx hb dX7_schedule_21 (by decide) ?_
    refine zc_pi (va_runS (As := [.int (iI x2), .int (iI 0), .int (iI 500)]) (rest := []) ⟨hx, hb, hml, hown, hts⟩ (kX7_isWithin l dC dI cI cJ cZ x2 0 500 (by first | assumption | omega | exact b2i_01 _) (by first | assumption | omega | exact b2i_01 _) (by first | assumption | omega | exact b2i_01 _)) (va_cwS 3 hts gX7_schedule_X7_isWithin rfl rfl rfl (by decide +kernel) ⟨Nat.le_of_ble_eq_true rfl, Nat.le_of_ble_eq_true rfl⟩) (zqS hK hP [] rfl) rfl rfl hl.1 rfl (lv_room (Nat.le_of_ble_eq_true rfl)) dX7_schedule_24 ⟨Nat.le_of_ble_eq_true rfl, Nat.le_of_ble_eq_true rfl⟩) ?_
    refine zb_feq (tgt := 40) hx hb dX7_schedule_27 (by decide) (fun c_2 => ?_) (fun c_2 => ?_)
    · skip
      subst hQ
      exact zthrow (cls := xA) (text := "due, slack or work is out of range") (ik := 82) (is := 165) (ic := 86) hx hb htr hown hX hS hP hD hA (hl.1.trans hml.symm) htab hlocks hts (by decide +kernel) (by decide +kernel) (List.mem_of_getElem? (i := 1) rfl) (List.mem_of_getElem? (i := 2) rfl) (fun w h => List.mem_cons_of_mem _ (List.mem_append_left _ (List.mem_append_right _ h))) zx_n1 zx_g1 (List.mem_of_getElem? (i := 10) rfl) dX7_schedule_40 dX7_schedule_43 dX7_schedule_44 dX7_schedule_46 dX7_schedule_49 (Nat.le_of_ble_eq_true rfl) (Nat.le_of_ble_eq_true rfl) (Nat.le_of_ble_eq_true rfl) (Nat.le_of_ble_eq_true rfl) (by decide) (by decide) (by first | exact Or.inl ⟨rfl, by omega⟩ | exact Or.inr ⟨rfl, by omega, by omega⟩)
    · skip
      refine lv_iload_n hx hb dX7_schedule_30 rfl (lv_at hl 3 rfl) ?_
      refine lv_iconst (v := iI 1) hx hb dX7_schedule_31 rfl ?_
      refine lv_bipush (v := iI 50) hx hb dX7_schedule_32 (by decide) ?_
      refine zc_pi (va_runS (As := [.int (iI x3), .int (iI 1), .int (iI 50)]) (rest := []) ⟨hx, hb, hml, hown, hts⟩ (kX7_isWithin l dC dI cI cJ cZ x3 1 50 (by first | assumption | omega | exact b2i_01 _) (by first | assumption | omega | exact b2i_01 _) (by first | assumption | omega | exact b2i_01 _)) (va_cwS 3 hts gX7_schedule_X7_isWithin rfl rfl rfl (by decide +kernel) ⟨Nat.le_of_ble_eq_true rfl, Nat.le_of_ble_eq_true rfl⟩) (zqS hK hP [] rfl) rfl rfl hl.1 rfl (lv_room (Nat.le_of_ble_eq_true rfl)) dX7_schedule_34 ⟨Nat.le_of_ble_eq_true rfl, Nat.le_of_ble_eq_true rfl⟩) ?_
      refine zb_fne (tgt := 50) hx hb dX7_schedule_37 (by decide) (fun c_3 => ?_) (fun c_3 => ?_)
      · skip
        refine lv_aload_n hx hb dX7_schedule_50 rfl (lv_at hl 0 rfl) ?_
        refine va_get (D := (dC, dI)) (ci := 7) (v := .ref (q 12)) (C := RX7) (T := TX7) (N := 13) hx hb hts hinX7 hown hK.1 hP 0 rfl rfl 3 (by decide) (hts _ (List.mem_of_getElem? (i := 6) rfl)) (fun _ h9 => h9) rfl dX7_schedule_51 ?_
        refine zc_pi (va_runV (As := []) (rest := []) ⟨hx, hb, hml, hown, hts⟩ (kX3_isFull l dC dI cI cJ cZ (q 12) (q 13) (q 14) (q 15) tdue tlat twk nT (by first | assumption | omega | exact b2i_01 _)) (cwV 0 hts gX7_schedule_X3_isFull rfl rfl rfl (by decide +kernel) ⟨Nat.le_of_ble_eq_true rfl, Nat.le_of_ble_eq_true rfl⟩) (zqV hK hP [12, 13, 14, 15] rfl 12 rfl rfl) rfl rfl hl.1 rfl (lv_room (Nat.le_of_ble_eq_true rfl)) dX7_schedule_54 ⟨Nat.le_of_ble_eq_true rfl, Nat.le_of_ble_eq_true rfl⟩) ?_
        refine zb_feq (tgt := 70) hx hb dX7_schedule_57 (by decide) (fun c_4 => ?_) (fun c_4 => ?_)
        · skip
          refine lv_aload_n hx hb dX7_schedule_70 rfl (lv_at hl 0 rfl) ?_
          refine zc_v (va_runV (As := []) (rest := []) ⟨hx, hb, hml, hown, hts⟩ (kX7_wakeForCall l dC dI cI cJ cZ q pw co la vo cpar fr cdee use run nC tdue tlat twk nT edue elat ewk nE len cnt tin sp pe slp late srv hv av bd sh sc lt rule now st asl idl idn par div dee (by first | assumption | omega | exact b2i_01 _) (by first | assumption | omega | exact b2i_01 _) (by first | assumption | omega | exact b2i_01 _) (by first | assumption | omega | exact b2i_01 _) (by first | assumption | omega | exact b2i_01 _) (by first | assumption | omega | exact b2i_01 _) (by first | assumption | omega | exact b2i_01 _) s.heap.size) (cwV 0 hts gX7_schedule_X7_wakeForCall rfl rfl rfl (by decide +kernel) ⟨Nat.le_of_ble_eq_true rfl, Nat.le_of_ble_eq_true rfl⟩) (zpV hK hP hD [0, 1, 2, 3, 4, 5, 6, 7, 8, 9, 10, 11, 12, 13, 14, 15, 16, 17, 18, 19, 20, 21, 22, 23, 24, 25, 26, 27, 28] rfl rfl 0 rfl rfl) rfl rfl hl.1 rfl (lv_room (Nat.le_of_ble_eq_true rfl)) dX7_schedule_71 ⟨Nat.le_of_ble_eq_true rfl, Nat.le_of_ble_eq_true rfl⟩) hP hD hS hA [0, 1, 2, 3, 4, 5, 6, 7, 8, 9, 10, 11, 12, 13, 14, 15, 16, 17, 18, 19, 20, 21, 22, 23, 24, 25, 26, 27, 28] [] rfl rfl rfl (by decide) (fun u_6 H locs r_5 hP hD hS => ?_)
          obtain ⟨stx_8, spx_9, pex_10, idlx_11, idnx_12, lenx_13, cntx_14⟩ := u_6
          have r_5 : (stx_8, spx_9, pex_10, idlx_11, idnx_12) = scF pw la st asl now sp pe idl idn ∧ idR lenx_13 cntx_14 idlx_11 idnx_12 := r_5
          have hP : va_P (dC, dI) vwCl (wP cI cJ cZ q pw co la vo cpar fr cdee use run nC tdue tlat twk nT edue elat ewk nE lenx_13 cntx_14 tin spx_9 pex_10 slp late srv hv av bd sh sc lt rule now stx_8 asl idlx_11 idnx_12 par div dee) H := hP
          have hD : va_D A (wP cI cJ cZ q pw co la vo cpar fr cdee use run nC tdue tlat twk nT edue elat ewk nE lenx_13 cntx_14 tin spx_9 pex_10 slp late srv hv av bd sh sc lt rule now stx_8 asl idlx_11 idnx_12 par div dee) := hD
          obtain ⟨hsc9, hid9⟩ := r_5
          refine lv_aload_n hx hb dX7_schedule_74 rfl (lv_at hl 0 rfl) ?_
          refine va_get (D := (dC, dI)) (ci := 7) (v := .ref (q 12)) (C := RX7) (T := TX7) (N := 13) hx hb hts hinX7 hown hK.1 hP 0 rfl rfl 3 (by decide) (hts _ (List.mem_of_getElem? (i := 6) rfl)) (fun _ h9 => h9) rfl dX7_schedule_75 ?_
          refine lv_iload_n hx hb dX7_schedule_78 rfl (lv_at hl 1 rfl) ?_
          refine lv_iload_n hx hb dX7_schedule_79 rfl (lv_at hl 1 rfl) ?_
          refine lv_iload_n hx hb dX7_schedule_80 rfl (lv_at hl 2 rfl) ?_
          refine zi_add hx hb dX7_schedule_81 ?_
          refine lv_iload_n hx hb dX7_schedule_82 rfl (lv_at hl 3 rfl) ?_
          refine zc_i (va_runV (As := [.int (iI x1), .int (iI (x1 + x2)), .int (iI x3)]) (rest := []) ⟨hx, hb, hml, hown, hts⟩ (kX3_add l dC dI cI cJ cZ (q 12) (q 13) (q 14) (q 15) tdue tlat twk nT x1 (x1 + x2) x3 (by first | assumption | omega | exact b2i_01 _) H.size) (cwV 3 hts gX7_schedule_X3_add rfl rfl rfl (by decide +kernel) ⟨Nat.le_of_ble_eq_true rfl, Nat.le_of_ble_eq_true rfl⟩) (zpV hK hP hD [12, 13, 14, 15] rfl rfl 12 rfl rfl) rfl rfl hl.1 rfl (lv_room (Nat.le_of_ble_eq_true rfl)) dX7_schedule_83 ⟨Nat.le_of_ble_eq_true rfl, Nat.le_of_ble_eq_true rfl⟩) hP hD hS hA [12, 13, 14, 15] [0, 1, 2, 3, 4, 5, 6, 7, 8, 9, 10, 11, 16, 17, 18, 19, 20, 21, 22, 23, 24, 25, 26, 27, 28] rfl rfl rfl (by decide) (fun v_17 u_16 H locs r_15 hP hD hS => ?_)
          refine ze_i r_15 ?_
          have hP : va_P (dC, dI) vwCl (wP cI cJ cZ q pw co la vo cpar fr cdee use run nC (uZ tdue nT x1) (uZ tlat nT (x1 + x2)) (uZ twk nT x3) (nT + 1) edue elat ewk nE lenx_13 cntx_14 tin spx_9 pex_10 slp late srv hv av bd sh sc lt rule now stx_8 asl idlx_11 idnx_12 par div dee) H := hP.sub [0, 1, 2, 3, 4, 5, 6, 7, 8, 9, 10, 11, 25, 26, 27, 28, 12, 13, 14, 15, 16, 17, 18, 19, 20, 21, 22, 23, 24] (z_fm rfl)
          have hD : va_D A (wP cI cJ cZ q pw co la vo cpar fr cdee use run nC (uZ tdue nT x1) (uZ tlat nT (x1 + x2)) (uZ twk nT x3) (nT + 1) edue elat ewk nE lenx_13 cntx_14 tin spx_9 pex_10 slp late srv hv av bd sh sc lt rule now stx_8 asl idlx_11 idnx_12 par div dee) := hD.sub [0, 1, 2, 3, 4, 5, 6, 7, 8, 9, 10, 11, 25, 26, 27, 28, 12, 13, 14, 15, 16, 17, 18, 19, 20, 21, 22, 23, 24] (by decide) rfl
          subst hQ
          refine vx_ret ?_
          refine W.widen (k := 1) (n := 6) (by decide) (by decide) ?_
          exact zret_i (W1 := fun u9 : Int × Int × Int × (Int → Int) × Int × (Int → Int) × Int => wP cI cJ cZ q pw co la vo cpar fr cdee use run nC (uZ tdue nT x1) (uZ tlat nT (x1 + x2)) (uZ twk nT x3) (nT + 1) edue elat ewk nE (u9.2.2.2.2.2.1) (u9.2.2.2.2.2.2) tin (u9.2.1) (u9.2.2.1) slp late srv hv av bd sh sc lt rule now (u9.1) asl (u9.2.2.2.1) (u9.2.2.2.2.1) par div dee) (stx_8, spx_9, pex_10, idlx_11, idnx_12, lenx_13, cntx_14) hx hb hr hP hD hS hlocks dX7_schedule_86 (by exact ⟨rfl, by omega, hsc9, hid9⟩)
        · skip
          subst hQ
          exact zthrow (cls := xS) (text := "there are 12 timers") (ik := 123) (is := 168) (ic := 127) hx hb htr hown hX hS hP hD hA (hl.1.trans hml.symm) htab hlocks hts (by decide +kernel) (by decide +kernel) (List.mem_of_getElem? (i := 3) rfl) (List.mem_of_getElem? (i := 4) rfl) (fun w h => List.mem_cons_of_mem _ (List.mem_append_right _ h)) zx_n3 zx_g3 (List.mem_of_getElem? (i := 11) rfl) dX7_schedule_60 dX7_schedule_63 dX7_schedule_64 dX7_schedule_66 dX7_schedule_69 (Nat.le_of_ble_eq_true rfl) (Nat.le_of_ble_eq_true rfl) (Nat.le_of_ble_eq_true rfl) (Nat.le_of_ble_eq_true rfl) (by decide) (by decide) (by first | exact Or.inl ⟨rfl, by omega⟩ | exact Or.inr ⟨rfl, by omega, by omega⟩)
      · skip
        subst hQ
        exact zthrow (cls := xA) (text := "due, slack or work is out of range") (ik := 82) (is := 165) (ic := 86) hx hb htr hown hX hS hP hD hA (hl.1.trans hml.symm) htab hlocks hts (by decide +kernel) (by decide +kernel) (List.mem_of_getElem? (i := 1) rfl) (List.mem_of_getElem? (i := 2) rfl) (fun w h => List.mem_cons_of_mem _ (List.mem_append_left _ (List.mem_append_right _ h))) zx_n1 zx_g1 (List.mem_of_getElem? (i := 10) rfl) dX7_schedule_40 dX7_schedule_43 dX7_schedule_44 dX7_schedule_46 dX7_schedule_49 (Nat.le_of_ble_eq_true rfl) (Nat.le_of_ble_eq_true rfl) (Nat.le_of_ble_eq_true rfl) (Nat.le_of_ble_eq_true rfl) (by decide) (by decide) (by first | exact Or.inl ⟨rfl, by omega⟩ | exact Or.inr ⟨rfl, by omega, by omega⟩)
def rmX7_addEvent : Room := { frames := 6, cells := 1, slots := 6, locals := 90 }
set_option maxRecDepth 100000 in
set_option maxHeartbeats 4000000 in
theorem kX7_addEvent (l : Launch) (dC : Nat → ClassId) (dI : Nat → Nat → Nat) (cI cJ cZ : ClassId) (q : Nat → Nat)  (pw : Int → Int) (co : Int → Int) (la : Int → Int) (vo : Int → Int) (cpar : Int → Int) (fr : Int → Int) (cdee : Int → Int) (use : Int → Int) (run : Int → Int) (nC : Int) (tdue : Int → Int) (tlat : Int → Int) (twk : Int → Int) (nT : Int) (edue : Int → Int) (elat : Int → Int) (ewk : Int → Int) (nE : Int) (len : Int → Int) (cnt : Int) (tin : Int → Int) (sp : Int) (pe : Int) (slp : Int) (late : Int) (srv : Int) (hv : Int → Int) (av : Int) (bd : Int) (sh : Int) (sc : Int → Int) (lt : Int → Int) (rule : Int) (now : Int) (st : Int) (asl : Int) (idl : Int → Int) (idn : Int) (par : Int → Int) (div : Int → Int) (dee : Int → Int) (x1 x2 : Int) (hx1 : zR x1) (hx2 : zR x2) (hnE : 0 ≤ nE ∧ nE ≤ 12) (hnow : 0 ≤ now ∧ now ≤ 200000) : zXi l yX7_addEvent wsX7_addEvent rmX7_addEvent (dC, dI) (zT cI cJ cZ) (wP cI cJ cZ q pw co la vo cpar fr cdee use run nC tdue tlat twk nT edue elat ewk nE len cnt tin sp pe slp late srv hv av bd sh sc lt rule now st asl idl idn par div dee) [.ref (q 0), .int (iI x1), .int (iI x2)] (fun (r9 : Int) (_ : Unit) => r9 = nE + 1 ∧ ((((now ≤ x1 ∧ x1 ≤ now + 1000) ∧ (1 ≤ x2 ∧ x2 ≤ 50)) ∧ nE < 12))) (fun _ : Unit => wP cI cJ cZ q pw co la vo cpar fr cdee use run nC tdue tlat twk nT (uZ edue nE x1) (uZ elat nE x1) (uZ ewk nE x2) (nE + 1) len cnt tin sp pe slp late srv hv av bd sh sc lt rule now st asl idl idn par div dee) (fun E => (E = xA ∧ ¬ ((now ≤ x1 ∧ x1 ≤ now + 1000) ∧ (1 ≤ x2 ∧ x2 ≤ 50))) ∨ (E = xS ∧ ((now ≤ x1 ∧ x1 ≤ now + 1000) ∧ (1 ≤ x2 ∧ x2 ≤ 50)) ∧ ¬ nE < 12)) := by
  refine zentx_i (cc := cX7_addEvent) (maxL := 3) (ret := (some .int)) (by decide +kernel) rfl (Nat.le_of_ble_eq_true rfl) ?_
  intro p e s m below meth c A ls htr htab hX hE hP hK hA hD hS hl
  obtain ⟨hx, hb, hr, hml, hown, hts, hlocks, hmn⟩ := hE
  have hinX7 : ∀ w ∈ u_ws RX7 TX7 13, w ∈ wsX7_addEvent := by decide +kernel
  have hinX3 : ∀ w ∈ u_ws RX3 TX3 4, w ∈ wsX7_addEvent := by decide +kernel
  have hl : lv_has ls 3 [(0, .ref (q 0)), (1, .int (iI x1)), (2, .int (iI x2))] := hl
  refine z_gen (fun Q hQ => ?_)
  refine lv_iload_n hx hb dX7_addEvent_0 rfl (lv_at hl 1 rfl) ?_
  refine lv_aload_n hx hb dX7_addEvent_1 rfl (lv_at hl 0 rfl) ?_
  refine va_get (D := (dC, dI)) (ci := 7) (v := .int (iI now)) (C := RX7) (T := TX7) (N := 13) hx hb hts hinX7 hown hK.1 hP 0 rfl rfl 10 (by decide) (hts _ (List.mem_of_getElem? (i := 5) rfl)) (fun _ h9 => h9) rfl dX7_addEvent_2 ?_
  refine lv_aload_n hx hb dX7_addEvent_5 rfl (lv_at hl 0 rfl) ?_
  refine va_get (D := (dC, dI)) (ci := 7) (v := .int (iI now)) (C := RX7) (T := TX7) (N := 13) hx hb hts hinX7 hown hK.1 hP 0 rfl rfl 10 (by decide) (hts _ (List.mem_of_getElem? (i := 5) rfl)) (fun _ h9 => h9) rfl dX7_addEvent_6 ?_
  refine lv_sipush (v := iI 1000) hx hb dX7_addEvent_9 (by decide) ?_
  refine zi_add hx hb dX7_addEvent_12 ?_
  refine zc_pi (va_runS (As := [.int (iI x1), .int (iI now), .int (iI (now + 1000))]) (rest := []) ⟨hx, hb, hml, hown, hts⟩ (kX7_isWithin l dC dI cI cJ cZ x1 now (now + 1000) (by first | assumption | omega | exact b2i_01 _) (by first | assumption | omega | exact b2i_01 _) (by first | assumption | omega | exact b2i_01 _)) (va_cwS 3 hts gX7_addEvent_X7_isWithin rfl rfl rfl (by decide +kernel) ⟨Nat.le_of_ble_eq_true rfl, Nat.le_of_ble_eq_true rfl⟩) (zqS hK hP [] rfl) rfl rfl hl.1 rfl (lv_room (Nat.le_of_ble_eq_true rfl)) dX7_addEvent_13 ⟨Nat.le_of_ble_eq_true rfl, Nat.le_of_ble_eq_true rfl⟩) ?_
  refine zb_feq (tgt := 29) hx hb dX7_addEvent_16 (by decide) (fun c_1 => ?_) (fun c_1 => ?_)
  · skip
    subst hQ
    exact zthrow (cls := xA) (text := "tick or work is out of range") (ik := 82) (is := 171) (ic := 86) hx hb htr hown hX hS hP hD hA (hl.1.trans hml.symm) htab hlocks hts (by decide +kernel) (by decide +kernel) (List.mem_of_getElem? (i := 1) rfl) (List.mem_of_getElem? (i := 2) rfl) (fun w h => List.mem_cons_of_mem _ (List.mem_append_left _ (List.mem_append_right _ h))) zx_n1 zx_g1 (List.mem_of_getElem? (i := 12) rfl) dX7_addEvent_29 dX7_addEvent_32 dX7_addEvent_33 dX7_addEvent_35 dX7_addEvent_38 (Nat.le_of_ble_eq_true rfl) (Nat.le_of_ble_eq_true rfl) (Nat.le_of_ble_eq_true rfl) (Nat.le_of_ble_eq_true rfl) (by decide) (by decide) (by first | exact Or.inl ⟨rfl, by omega⟩ | exact Or.inr ⟨rfl, by omega, by omega⟩)
  · skip
    refine lv_iload_n hx hb dX7_addEvent_19 rfl (lv_at hl 2 rfl) ?_
    refine lv_iconst (v := iI 1) hx hb dX7_addEvent_20 rfl ?_
    refine lv_bipush (v := iI 50) hx hb dX7_addEvent_21 (by decide) ?_
    refine zc_pi (va_runS (As := [.int (iI x2), .int (iI 1), .int (iI 50)]) (rest := []) ⟨hx, hb, hml, hown, hts⟩ (kX7_isWithin l dC dI cI cJ cZ x2 1 50 (by first | assumption | omega | exact b2i_01 _) (by first | assumption | omega | exact b2i_01 _) (by first | assumption | omega | exact b2i_01 _)) (va_cwS 3 hts gX7_addEvent_X7_isWithin rfl rfl rfl (by decide +kernel) ⟨Nat.le_of_ble_eq_true rfl, Nat.le_of_ble_eq_true rfl⟩) (zqS hK hP [] rfl) rfl rfl hl.1 rfl (lv_room (Nat.le_of_ble_eq_true rfl)) dX7_addEvent_23 ⟨Nat.le_of_ble_eq_true rfl, Nat.le_of_ble_eq_true rfl⟩) ?_
    refine zb_fne (tgt := 39) hx hb dX7_addEvent_26 (by decide) (fun c_2 => ?_) (fun c_2 => ?_)
    · skip
      refine lv_aload_n hx hb dX7_addEvent_39 rfl (lv_at hl 0 rfl) ?_
      refine va_get (D := (dC, dI)) (ci := 7) (v := .ref (q 16)) (C := RX7) (T := TX7) (N := 13) hx hb hts hinX7 hown hK.1 hP 0 rfl rfl 4 (by decide) (hts _ (List.mem_of_getElem? (i := 6) rfl)) (fun _ h9 => h9) rfl dX7_addEvent_40 ?_
      refine zc_pi (va_runV (As := []) (rest := []) ⟨hx, hb, hml, hown, hts⟩ (kX3_isFull l dC dI cI cJ cZ (q 16) (q 17) (q 18) (q 19) edue elat ewk nE (by first | assumption | omega | exact b2i_01 _)) (cwV 0 hts gX7_addEvent_X3_isFull rfl rfl rfl (by decide +kernel) ⟨Nat.le_of_ble_eq_true rfl, Nat.le_of_ble_eq_true rfl⟩) (zqV hK hP [16, 17, 18, 19] rfl 16 rfl rfl) rfl rfl hl.1 rfl (lv_room (Nat.le_of_ble_eq_true rfl)) dX7_addEvent_43 ⟨Nat.le_of_ble_eq_true rfl, Nat.le_of_ble_eq_true rfl⟩) ?_
      refine zb_feq (tgt := 59) hx hb dX7_addEvent_46 (by decide) (fun c_3 => ?_) (fun c_3 => ?_)
      · skip
        refine lv_aload_n hx hb dX7_addEvent_59 rfl (lv_at hl 0 rfl) ?_
        refine va_get (D := (dC, dI)) (ci := 7) (v := .ref (q 16)) (C := RX7) (T := TX7) (N := 13) hx hb hts hinX7 hown hK.1 hP 0 rfl rfl 4 (by decide) (hts _ (List.mem_of_getElem? (i := 6) rfl)) (fun _ h9 => h9) rfl dX7_addEvent_60 ?_
        refine lv_iload_n hx hb dX7_addEvent_63 rfl (lv_at hl 1 rfl) ?_
        refine lv_iload_n hx hb dX7_addEvent_64 rfl (lv_at hl 1 rfl) ?_
        refine lv_iload_n hx hb dX7_addEvent_65 rfl (lv_at hl 2 rfl) ?_
        refine zc_i (va_runV (As := [.int (iI x1), .int (iI x1), .int (iI x2)]) (rest := []) ⟨hx, hb, hml, hown, hts⟩ (kX3_add l dC dI cI cJ cZ (q 16) (q 17) (q 18) (q 19) edue elat ewk nE x1 x1 x2 (by first | assumption | omega | exact b2i_01 _) s.heap.size) (cwV 3 hts gX7_addEvent_X3_add rfl rfl rfl (by decide +kernel) ⟨Nat.le_of_ble_eq_true rfl, Nat.le_of_ble_eq_true rfl⟩) (zpV hK hP hD [16, 17, 18, 19] rfl rfl 16 rfl rfl) rfl rfl hl.1 rfl (lv_room (Nat.le_of_ble_eq_true rfl)) dX7_addEvent_66 ⟨Nat.le_of_ble_eq_true rfl, Nat.le_of_ble_eq_true rfl⟩) hP hD hS hA [16, 17, 18, 19] [0, 1, 2, 3, 4, 5, 6, 7, 8, 9, 10, 11, 12, 13, 14, 15, 20, 21, 22, 23, 24, 25, 26, 27, 28] rfl rfl rfl (by decide) (fun v_6 u_5 H locs r_4 hP hD hS => ?_)
        refine ze_i r_4 ?_
        have hP : va_P (dC, dI) vwCl (wP cI cJ cZ q pw co la vo cpar fr cdee use run nC tdue tlat twk nT (uZ edue nE x1) (uZ elat nE x1) (uZ ewk nE x2) (nE + 1) len cnt tin sp pe slp late srv hv av bd sh sc lt rule now st asl idl idn par div dee) H := hP.sub [0, 1, 2, 3, 4, 5, 6, 7, 8, 9, 10, 11, 12, 13, 14, 15, 25, 26, 27, 28, 16, 17, 18, 19, 20, 21, 22, 23, 24] (z_fm rfl)
        have hD : va_D A (wP cI cJ cZ q pw co la vo cpar fr cdee use run nC tdue tlat twk nT (uZ edue nE x1) (uZ elat nE x1) (uZ ewk nE x2) (nE + 1) len cnt tin sp pe slp late srv hv av bd sh sc lt rule now st asl idl idn par div dee) := hD.sub [0, 1, 2, 3, 4, 5, 6, 7, 8, 9, 10, 11, 12, 13, 14, 15, 25, 26, 27, 28, 16, 17, 18, 19, 20, 21, 22, 23, 24] (by decide) rfl
        subst hQ
        refine vx_ret ?_
        refine W.widen (k := 1) (n := 6) (by decide) (by decide) ?_
        exact zret_i (W1 := fun _ : Unit => wP cI cJ cZ q pw co la vo cpar fr cdee use run nC tdue tlat twk nT (uZ edue nE x1) (uZ elat nE x1) (uZ ewk nE x2) (nE + 1) len cnt tin sp pe slp late srv hv av bd sh sc lt rule now st asl idl idn par div dee) () hx hb hr hP hD hS hlocks dX7_addEvent_69 (by exact ⟨rfl, by omega⟩)
      · skip
        subst hQ
        exact zthrow (cls := xS) (text := "12 events are to come") (ik := 123) (is := 173) (ic := 127) hx hb htr hown hX hS hP hD hA (hl.1.trans hml.symm) htab hlocks hts (by decide +kernel) (by decide +kernel) (List.mem_of_getElem? (i := 3) rfl) (List.mem_of_getElem? (i := 4) rfl) (fun w h => List.mem_cons_of_mem _ (List.mem_append_right _ h)) zx_n3 zx_g3 (List.mem_of_getElem? (i := 13) rfl) dX7_addEvent_49 dX7_addEvent_52 dX7_addEvent_53 dX7_addEvent_55 dX7_addEvent_58 (Nat.le_of_ble_eq_true rfl) (Nat.le_of_ble_eq_true rfl) (Nat.le_of_ble_eq_true rfl) (Nat.le_of_ble_eq_true rfl) (by decide) (by decide) (by first | exact Or.inl ⟨rfl, by omega⟩ | exact Or.inr ⟨rfl, by omega, by omega⟩)
    · skip
      subst hQ
      exact zthrow (cls := xA) (text := "tick or work is out of range") (ik := 82) (is := 171) (ic := 86) hx hb htr hown hX hS hP hD hA (hl.1.trans hml.symm) htab hlocks hts (by decide +kernel) (by decide +kernel) (List.mem_of_getElem? (i := 1) rfl) (List.mem_of_getElem? (i := 2) rfl) (fun w h => List.mem_cons_of_mem _ (List.mem_append_left _ (List.mem_append_right _ h))) zx_n1 zx_g1 (List.mem_of_getElem? (i := 12) rfl) dX7_addEvent_29 dX7_addEvent_32 dX7_addEvent_33 dX7_addEvent_35 dX7_addEvent_38 (Nat.le_of_ble_eq_true rfl) (Nat.le_of_ble_eq_true rfl) (Nat.le_of_ble_eq_true rfl) (Nat.le_of_ble_eq_true rfl) (by decide) (by decide) (by first | exact Or.inl ⟨rfl, by omega⟩ | exact Or.inr ⟨rfl, by omega, by omega⟩)
def rmX7_setRule : Room := { frames := 6, cells := 1, slots := 6, locals := 90 }
set_option maxRecDepth 100000 in
set_option maxHeartbeats 4000000 in
theorem kX7_setRule (l : Launch) (dC : Nat → ClassId) (dI : Nat → Nat → Nat) (cI cJ cZ : ClassId) (q : Nat → Nat)  (pw : Int → Int) (co : Int → Int) (la : Int → Int) (vo : Int → Int) (cpar : Int → Int) (fr : Int → Int) (cdee : Int → Int) (use : Int → Int) (run : Int → Int) (nC : Int) (tdue : Int → Int) (tlat : Int → Int) (twk : Int → Int) (nT : Int) (edue : Int → Int) (elat : Int → Int) (ewk : Int → Int) (nE : Int) (len : Int → Int) (cnt : Int) (tin : Int → Int) (sp : Int) (pe : Int) (slp : Int) (late : Int) (srv : Int) (hv : Int → Int) (av : Int) (bd : Int) (sh : Int) (sc : Int → Int) (lt : Int → Int) (rule : Int) (now : Int) (st : Int) (asl : Int) (idl : Int → Int) (idn : Int) (par : Int → Int) (div : Int → Int) (dee : Int → Int) (x1 : Int) (hx1 : zR x1) (hst : 0 ≤ st ∧ st ≤ 3) (hpw : rgZ pw 4 1000) (hco : rgZ co 4 10000) (hla : rgZ la 4 100) (hnow : 0 ≤ now ∧ now ≤ 200000) (hasl : 0 ≤ asl ∧ asl ≤ now) (hid : idR len cnt idl idn) : zXi l yX7_setRule wsX7_setRule rmX7_setRule (dC, dI) (zT cI cJ cZ) (wP cI cJ cZ q pw co la vo cpar fr cdee use run nC tdue tlat twk nT edue elat ewk nE len cnt tin sp pe slp late srv hv av bd sh sc lt rule now st asl idl idn par div dee) [.ref (q 0), .int (iI x1)] (fun (r9 : Int) (u9 : Int × Int × Int × (Int → Int) × Int × (Int → Int) × Int) => r9 = rule ∧ ((0 ≤ x1 ∧ x1 ≤ 2) ∧ ((u9.1), (u9.2.1), (u9.2.2.1), (u9.2.2.2.1), (u9.2.2.2.2.1)) = scF pw la st asl now sp pe idl idn ∧ idR (u9.2.2.2.2.2.1) (u9.2.2.2.2.2.2) (u9.2.2.2.1) (u9.2.2.2.2.1))) (fun u9 : Int × Int × Int × (Int → Int) × Int × (Int → Int) × Int => wP cI cJ cZ q pw co la vo cpar fr cdee use run nC tdue tlat twk nT edue elat ewk nE (u9.2.2.2.2.2.1) (u9.2.2.2.2.2.2) tin (u9.2.1) (u9.2.2.1) slp late srv hv av bd sh sc lt x1 now (u9.1) asl (u9.2.2.2.1) (u9.2.2.2.2.1) par div dee) (fun E => E = xA ∧ ¬ (0 ≤ x1 ∧ x1 ≤ 2)) := by
  refine zentx_i (cc := cX7_setRule) (maxL := 3) (ret := (some .int)) (by decide +kernel) rfl (Nat.le_of_ble_eq_true rfl) ?_
  intro p e s m below meth c A ls htr htab hX hE hP hK hA hD hS hl
  obtain ⟨hx, hb, hr, hml, hown, hts, hlocks, hmn⟩ := hE
  have hinX7 : ∀ w ∈ u_ws RX7 TX7 13, w ∈ wsX7_setRule := by decide +kernel
  have hinX6 : ∀ w ∈ u_ws RX6 TX6 3, w ∈ wsX7_setRule := by decide +kernel
  have hinX4 : ∀ w ∈ u_ws RX4 TX4 6, w ∈ wsX7_setRule := by decide +kernel
  have hinX2 : ∀ w ∈ u_ws RX2 TX2 2, w ∈ wsX7_setRule := by decide +kernel
  have hl : lv_has ls 3 [(0, .ref (q 0)), (1, .int (iI x1))] := hl
  refine z_gen (fun Q hQ => ?_)
  refine lv_iload_n hx hb dX7_setRule_0 rfl (lv_at hl 1 rfl) ?_
  refine lv_iconst (v := iI 0) hx hb dX7_setRule_1 rfl ?_
  refine lv_iconst (v := iI 2) hx hb dX7_setRule_2 rfl ?_
  refine zc_pi (va_runS (As := [.int (iI x1), .int (iI 0), .int (iI 2)]) (rest := []) ⟨hx, hb, hml, hown, hts⟩ (kX7_isWithin l dC dI cI cJ cZ x1 0 2 (by first | assumption | omega | exact b2i_01 _) (by first | assumption | omega | exact b2i_01 _) (by first | assumption | omega | exact b2i_01 _)) (va_cwS 3 hts gX7_setRule_X7_isWithin rfl rfl rfl (by decide +kernel) ⟨Nat.le_of_ble_eq_true rfl, Nat.le_of_ble_eq_true rfl⟩) (zqS hK hP [] rfl) rfl rfl hl.1 rfl (lv_room (Nat.le_of_ble_eq_true rfl)) dX7_setRule_3 ⟨Nat.le_of_ble_eq_true rfl, Nat.le_of_ble_eq_true rfl⟩) ?_
  refine zb_fne (tgt := 19) hx hb dX7_setRule_6 (by decide) (fun c_1 => ?_) (fun c_1 => ?_)
  · skip
    refine lv_aload_n hx hb dX7_setRule_19 rfl (lv_at hl 0 rfl) ?_
    refine zc_v (va_runV (As := []) (rest := []) ⟨hx, hb, hml, hown, hts⟩ (kX7_wakeForCall l dC dI cI cJ cZ q pw co la vo cpar fr cdee use run nC tdue tlat twk nT edue elat ewk nE len cnt tin sp pe slp late srv hv av bd sh sc lt rule now st asl idl idn par div dee (by first | assumption | omega | exact b2i_01 _) (by first | assumption | omega | exact b2i_01 _) (by first | assumption | omega | exact b2i_01 _) (by first | assumption | omega | exact b2i_01 _) (by first | assumption | omega | exact b2i_01 _) (by first | assumption | omega | exact b2i_01 _) (by first | assumption | omega | exact b2i_01 _) s.heap.size) (cwV 0 hts gX7_setRule_X7_wakeForCall rfl rfl rfl (by decide +kernel) ⟨Nat.le_of_ble_eq_true rfl, Nat.le_of_ble_eq_true rfl⟩) (zpV hK hP hD [0, 1, 2, 3, 4, 5, 6, 7, 8, 9, 10, 11, 12, 13, 14, 15, 16, 17, 18, 19, 20, 21, 22, 23, 24, 25, 26, 27, 28] rfl rfl 0 rfl rfl) rfl rfl hl.1 rfl (lv_room (Nat.le_of_ble_eq_true rfl)) dX7_setRule_20 ⟨Nat.le_of_ble_eq_true rfl, Nat.le_of_ble_eq_true rfl⟩) hP hD hS hA [0, 1, 2, 3, 4, 5, 6, 7, 8, 9, 10, 11, 12, 13, 14, 15, 16, 17, 18, 19, 20, 21, 22, 23, 24, 25, 26, 27, 28] [] rfl rfl rfl (by decide) (fun u_3 H locs r_2 hP hD hS => ?_)
    obtain ⟨stx_5, spx_6, pex_7, idlx_8, idnx_9, lenx_10, cntx_11⟩ := u_3
    have r_2 : (stx_5, spx_6, pex_7, idlx_8, idnx_9) = scF pw la st asl now sp pe idl idn ∧ idR lenx_10 cntx_11 idlx_8 idnx_9 := r_2
    have hP : va_P (dC, dI) vwCl (wP cI cJ cZ q pw co la vo cpar fr cdee use run nC tdue tlat twk nT edue elat ewk nE lenx_10 cntx_11 tin spx_6 pex_7 slp late srv hv av bd sh sc lt rule now stx_5 asl idlx_8 idnx_9 par div dee) H := hP
    have hD : va_D A (wP cI cJ cZ q pw co la vo cpar fr cdee use run nC tdue tlat twk nT edue elat ewk nE lenx_10 cntx_11 tin spx_6 pex_7 slp late srv hv av bd sh sc lt rule now stx_5 asl idlx_8 idnx_9 par div dee) := hD
    obtain ⟨hsc9, hid9⟩ := r_2
    refine lv_aload_n hx hb dX7_setRule_23 rfl (lv_at hl 0 rfl) ?_
    refine va_get (D := (dC, dI)) (ci := 7) (v := .int (iI rule)) (C := RX7) (T := TX7) (N := 13) hx hb hts hinX7 hown hK.1 hP 0 rfl rfl 9 (by decide) (hts _ (List.mem_of_getElem? (i := 3) rfl)) (fun _ h9 => h9) rfl dX7_setRule_24 ?_
    refine lv_istore_n (lv' := [(2, .int (iI rule)), (0, .ref (q 0)), (1, .int (iI x1))]) hx hb dX7_setRule_27 rfl hl (by decide) rfl (fun ls hl => ?_)
    refine lv_aload_n hx hb dX7_setRule_28 rfl (lv_at hl 1 rfl) ?_
    refine lv_iload_n hx hb dX7_setRule_29 rfl (lv_at hl 2 rfl) ?_
    refine va_put (D := (dC, dI)) (ci := 7) (v := .int (iI x1)) (ty := .int) (C := RX7) (T := TX7) (N := 13) hx hb hts hinX7 tyX7 tyX7_ok nmX7 hown hK.1 hP hD hS 0 rfl rfl 9 (by decide) (hts _ (List.mem_of_getElem? (i := 3) rfl)) (fun _ h9 => h9) rfl (by decide +kernel) rfl rfl (Nat.le_of_ble_eq_true rfl) dX7_setRule_30 (fun H locs hP hD hS => ?_)
    have hP : va_P (dC, dI) vwCl (wP cI cJ cZ q pw co la vo cpar fr cdee use run nC tdue tlat twk nT edue elat ewk nE lenx_10 cntx_11 tin spx_6 pex_7 slp late srv hv av bd sh sc lt x1 now stx_5 asl idlx_8 idnx_9 par div dee) H := hP
    have hD : va_D A (wP cI cJ cZ q pw co la vo cpar fr cdee use run nC tdue tlat twk nT edue elat ewk nE lenx_10 cntx_11 tin spx_6 pex_7 slp late srv hv av bd sh sc lt x1 now stx_5 asl idlx_8 idnx_9 par div dee) := hD
    refine lv_iload_n hx hb dX7_setRule_33 rfl (lv_at hl 0 rfl) ?_
    subst hQ
    refine vx_ret ?_
    refine W.widen (k := 1) (n := 6) (by decide) (by decide) ?_
    exact zret_i (W1 := fun u9 : Int × Int × Int × (Int → Int) × Int × (Int → Int) × Int => wP cI cJ cZ q pw co la vo cpar fr cdee use run nC tdue tlat twk nT edue elat ewk nE (u9.2.2.2.2.2.1) (u9.2.2.2.2.2.2) tin (u9.2.1) (u9.2.2.1) slp late srv hv av bd sh sc lt x1 now (u9.1) asl (u9.2.2.2.1) (u9.2.2.2.2.1) par div dee) (stx_5, spx_6, pex_7, idlx_8, idnx_9, lenx_10, cntx_11) hx hb hr hP hD hS hlocks dX7_setRule_34 (by exact ⟨rfl, by omega, hsc9, hid9⟩)
  · skip
    subst hQ
    exact zthrow (cls := xA) (text := "rule is out of range") (ik := 82) (is := 175) (ic := 86) hx hb htr hown hX hS hP hD hA (hl.1.trans hml.symm) htab hlocks hts (by decide +kernel) (by decide +kernel) (List.mem_of_getElem? (i := 1) rfl) (List.mem_of_getElem? (i := 2) rfl) (fun w h => List.mem_cons_of_mem _ (List.mem_append_right _ h)) zx_n1 zx_g1 (List.mem_of_getElem? (i := 14) rfl) dX7_setRule_9 dX7_setRule_12 dX7_setRule_13 dX7_setRule_15 dX7_setRule_18 (Nat.le_of_ble_eq_true rfl) (Nat.le_of_ble_eq_true rfl) (Nat.le_of_ble_eq_true rfl) (Nat.le_of_ble_eq_true rfl) (by decide) (by decide) (by first | exact ⟨rfl, by omega⟩ | omega)
def rmX7_ticksIn : Room := { frames := 6, cells := 1, slots := 6, locals := 90 }
set_option maxRecDepth 100000 in
set_option maxHeartbeats 4000000 in
theorem kX7_ticksIn (l : Launch) (dC : Nat → ClassId) (dI : Nat → Nat → Nat) (cI cJ cZ : ClassId) (q : Nat → Nat)  (pw : Int → Int) (co : Int → Int) (la : Int → Int) (vo : Int → Int) (cpar : Int → Int) (fr : Int → Int) (cdee : Int → Int) (use : Int → Int) (run : Int → Int) (nC : Int) (tdue : Int → Int) (tlat : Int → Int) (twk : Int → Int) (nT : Int) (edue : Int → Int) (elat : Int → Int) (ewk : Int → Int) (nE : Int) (len : Int → Int) (cnt : Int) (tin : Int → Int) (sp : Int) (pe : Int) (slp : Int) (late : Int) (srv : Int) (hv : Int → Int) (av : Int) (bd : Int) (sh : Int) (sc : Int → Int) (lt : Int → Int) (rule : Int) (now : Int) (st : Int) (asl : Int) (idl : Int → Int) (idn : Int) (par : Int → Int) (div : Int → Int) (dee : Int → Int) (x1 : Int) (hx1 : zR x1) : zXi l yX7_ticksIn wsX7_ticksIn rmX7_ticksIn (dC, dI) (zT cI cJ cZ) (wP cI cJ cZ q pw co la vo cpar fr cdee use run nC tdue tlat twk nT edue elat ewk nE len cnt tin sp pe slp late srv hv av bd sh sc lt rule now st asl idl idn par div dee) [.ref (q 0), .int (iI x1)] (fun (r9 : Int) (_ : Unit) => r9 = tin x1 ∧ ((0 ≤ x1 ∧ x1 ≤ 3))) (fun _ : Unit => wP cI cJ cZ q pw co la vo cpar fr cdee use run nC tdue tlat twk nT edue elat ewk nE len cnt tin sp pe slp late srv hv av bd sh sc lt rule now st asl idl idn par div dee) (fun E => E = xA ∧ ¬ (0 ≤ x1 ∧ x1 ≤ 3)) := by
  refine zentx_i (cc := cX7_ticksIn) (maxL := 2) (ret := (some .int)) (by decide +kernel) rfl (Nat.le_of_ble_eq_true rfl) ?_
  intro p e s m below meth c A ls htr htab hX hE hP hK hA hD hS hl
  obtain ⟨hx, hb, hr, hml, hown, hts, hlocks, hmn⟩ := hE
  have hinX7 : ∀ w ∈ u_ws RX7 TX7 13, w ∈ wsX7_ticksIn := by decide +kernel
  have hinX4 : ∀ w ∈ u_ws RX4 TX4 6, w ∈ wsX7_ticksIn := by decide +kernel
  have hl : lv_has ls 2 [(0, .ref (q 0)), (1, .int (iI x1))] := hl
  refine z_gen (fun Q hQ => ?_)
  refine lv_iload_n hx hb dX7_ticksIn_0 rfl (lv_at hl 1 rfl) ?_
  refine lv_iconst (v := iI 0) hx hb dX7_ticksIn_1 rfl ?_
  refine lv_iconst (v := iI 3) hx hb dX7_ticksIn_2 rfl ?_
  refine zc_pi (va_runS (As := [.int (iI x1), .int (iI 0), .int (iI 3)]) (rest := []) ⟨hx, hb, hml, hown, hts⟩ (kX7_isWithin l dC dI cI cJ cZ x1 0 3 (by first | assumption | omega | exact b2i_01 _) (by first | assumption | omega | exact b2i_01 _) (by first | assumption | omega | exact b2i_01 _)) (va_cwS 3 hts gX7_ticksIn_X7_isWithin rfl rfl rfl (by decide +kernel) ⟨Nat.le_of_ble_eq_true rfl, Nat.le_of_ble_eq_true rfl⟩) (zqS hK hP [] rfl) rfl rfl hl.1 rfl (lv_room (Nat.le_of_ble_eq_true rfl)) dX7_ticksIn_3 ⟨Nat.le_of_ble_eq_true rfl, Nat.le_of_ble_eq_true rfl⟩) ?_
  refine zb_fne (tgt := 19) hx hb dX7_ticksIn_6 (by decide) (fun c_1 => ?_) (fun c_1 => ?_)
  · skip
    refine lv_aload_n hx hb dX7_ticksIn_19 rfl (lv_at hl 0 rfl) ?_
    refine va_get (D := (dC, dI)) (ci := 7) (v := .ref (q 22)) (C := RX7) (T := TX7) (N := 13) hx hb hts hinX7 hown hK.1 hP 0 rfl rfl 6 (by decide) (hts _ (List.mem_of_getElem? (i := 3) rfl)) (fun _ h9 => h9) rfl dX7_ticksIn_20 ?_
    refine va_getN (D := (dC, dI)) (ci := 4) (v := .ref (q 23)) (C := RX4) (T := TX4) (N := 6) (host := "SleepPlanner") hx hb hts hinX4 hown hK.1 hP 22 rfl rfl 0 (by decide) (va_Nw.use rfl (hK.2.1 _ (List.mem_of_getElem? (i := 1) rfl))) (fun _ h9 => h9) rfl dX7_ticksIn_23 ?_
    refine lv_iload_n hx hb dX7_ticksIn_26 rfl (lv_at hl 1 rfl) ?_
    refine zc_pi (va_runS (As := [.ref (q 23), .int (iI x1)]) (rest := []) ⟨hx, hb, hml, hown, hts⟩ (kX7_read l dC dI cI cJ cZ (q 23) 4 tin x1 (by first | assumption | omega | exact b2i_01 _) (by first | assumption | omega | exact b2i_01 _)) (va_cwS 2 hts gX7_ticksIn_X7_read rfl rfl rfl (by decide +kernel) ⟨Nat.le_of_ble_eq_true rfl, Nat.le_of_ble_eq_true rfl⟩) (zqS hK hP [23] rfl) rfl rfl hl.1 rfl (lv_room (Nat.le_of_ble_eq_true rfl)) dX7_ticksIn_27 ⟨Nat.le_of_ble_eq_true rfl, Nat.le_of_ble_eq_true rfl⟩) ?_
    subst hQ
    refine vx_ret ?_
    refine W.widen (k := 1) (n := 6) (by decide) (by decide) ?_
    exact zret_i (W1 := fun _ : Unit => wP cI cJ cZ q pw co la vo cpar fr cdee use run nC tdue tlat twk nT edue elat ewk nE len cnt tin sp pe slp late srv hv av bd sh sc lt rule now st asl idl idn par div dee) () hx hb hr hP hD hS hlocks dX7_ticksIn_30 (by exact ⟨rdZ_i (by omega), by omega⟩)
  · skip
    subst hQ
    exact zthrow (cls := xA) (text := "state is out of range") (ik := 82) (is := 160) (ic := 86) hx hb htr hown hX hS hP hD hA (hl.1.trans hml.symm) htab hlocks hts (by decide +kernel) (by decide +kernel) (List.mem_of_getElem? (i := 1) rfl) (List.mem_of_getElem? (i := 2) rfl) (fun w h => List.mem_cons_of_mem _ (List.mem_append_right _ h)) zx_n1 zx_g1 (List.mem_of_getElem? (i := 9) rfl) dX7_ticksIn_9 dX7_ticksIn_12 dX7_ticksIn_13 dX7_ticksIn_15 dX7_ticksIn_18 (Nat.le_of_ble_eq_true rfl) (Nat.le_of_ble_eq_true rfl) (Nat.le_of_ble_eq_true rfl) (Nat.le_of_ble_eq_true rfl) (by decide) (by decide) (by first | exact ⟨rfl, by omega⟩ | omega)
def rmX7_setHarvest : Room := { frames := 6, cells := 1, slots := 6, locals := 90 }
set_option maxRecDepth 100000 in
set_option maxHeartbeats 4000000 in
theorem kX7_setHarvest (l : Launch) (dC : Nat → ClassId) (dI : Nat → Nat → Nat) (cI cJ cZ : ClassId) (q : Nat → Nat)  (pw : Int → Int) (co : Int → Int) (la : Int → Int) (vo : Int → Int) (cpar : Int → Int) (fr : Int → Int) (cdee : Int → Int) (use : Int → Int) (run : Int → Int) (nC : Int) (tdue : Int → Int) (tlat : Int → Int) (twk : Int → Int) (nT : Int) (edue : Int → Int) (elat : Int → Int) (ewk : Int → Int) (nE : Int) (len : Int → Int) (cnt : Int) (tin : Int → Int) (sp : Int) (pe : Int) (slp : Int) (late : Int) (srv : Int) (hv : Int → Int) (av : Int) (bd : Int) (sh : Int) (sc : Int → Int) (lt : Int → Int) (rule : Int) (now : Int) (st : Int) (asl : Int) (idl : Int → Int) (idn : Int) (par : Int → Int) (div : Int → Int) (dee : Int → Int) (x1 x2 : Int) (hx1 : zR x1) (hx2 : zR x2) : zXi l yX7_setHarvest wsX7_setHarvest rmX7_setHarvest (dC, dI) (zT cI cJ cZ) (wP cI cJ cZ q pw co la vo cpar fr cdee use run nC tdue tlat twk nT edue elat ewk nE len cnt tin sp pe slp late srv hv av bd sh sc lt rule now st asl idl idn par div dee) [.ref (q 0), .int (iI x1), .int (iI x2)] (fun (r9 : Int) (_ : Unit) => r9 = hv x1 ∧ (((0 ≤ x1 ∧ x1 ≤ 23) ∧ (0 ≤ x2 ∧ x2 ≤ 1000)))) (fun _ : Unit => wP cI cJ cZ q pw co la vo cpar fr cdee use run nC tdue tlat twk nT edue elat ewk nE len cnt tin sp pe slp late srv (uZ hv x1 x2) av bd sh sc lt rule now st asl idl idn par div dee) (fun E => E = xA ∧ ¬ ((0 ≤ x1 ∧ x1 ≤ 23) ∧ (0 ≤ x2 ∧ x2 ≤ 1000))) := by
  refine zentx_i (cc := cX7_setHarvest) (maxL := 3) (ret := (some .int)) (by decide +kernel) rfl (Nat.le_of_ble_eq_true rfl) ?_
  intro p e s m below meth c A ls htr htab hX hE hP hK hA hD hS hl
  obtain ⟨hx, hb, hr, hml, hown, hts, hlocks, hmn⟩ := hE
  have hinX7 : ∀ w ∈ u_ws RX7 TX7 13, w ∈ wsX7_setHarvest := by decide +kernel
  have hinX0 : ∀ w ∈ u_ws RX0 TX0 4, w ∈ wsX7_setHarvest := by decide +kernel
  have hl : lv_has ls 3 [(0, .ref (q 0)), (1, .int (iI x1)), (2, .int (iI x2))] := hl
  refine z_gen (fun Q hQ => ?_)
  refine lv_iload_n hx hb dX7_setHarvest_0 rfl (lv_at hl 1 rfl) ?_
  refine lv_iconst (v := iI 0) hx hb dX7_setHarvest_1 rfl ?_
  refine lv_bipush (v := iI 23) hx hb dX7_setHarvest_2 (by decide) ?_
  refine zc_pi (va_runS (As := [.int (iI x1), .int (iI 0), .int (iI 23)]) (rest := []) ⟨hx, hb, hml, hown, hts⟩ (kX7_isWithin l dC dI cI cJ cZ x1 0 23 (by first | assumption | omega | exact b2i_01 _) (by first | assumption | omega | exact b2i_01 _) (by first | assumption | omega | exact b2i_01 _)) (va_cwS 3 hts gX7_setHarvest_X7_isWithin rfl rfl rfl (by decide +kernel) ⟨Nat.le_of_ble_eq_true rfl, Nat.le_of_ble_eq_true rfl⟩) (zqS hK hP [] rfl) rfl rfl hl.1 rfl (lv_room (Nat.le_of_ble_eq_true rfl)) dX7_setHarvest_4 ⟨Nat.le_of_ble_eq_true rfl, Nat.le_of_ble_eq_true rfl⟩) ?_
  refine zb_feq (tgt := 21) hx hb dX7_setHarvest_7 (by decide) (fun c_1 => ?_) (fun c_1 => ?_)
  · skip
    subst hQ
    exact zthrow (cls := xA) (text := "hour or energy is out of range") (ik := 82) (is := 209) (ic := 86) hx hb htr hown hX hS hP hD hA (hl.1.trans hml.symm) htab hlocks hts (by decide +kernel) (by decide +kernel) (List.mem_of_getElem? (i := 1) rfl) (List.mem_of_getElem? (i := 2) rfl) (fun w h => List.mem_cons_of_mem _ (List.mem_append_right _ h)) zx_n1 zx_g1 (List.mem_of_getElem? (i := 16) rfl) dX7_setHarvest_21 dX7_setHarvest_24 dX7_setHarvest_25 dX7_setHarvest_27 dX7_setHarvest_30 (Nat.le_of_ble_eq_true rfl) (Nat.le_of_ble_eq_true rfl) (Nat.le_of_ble_eq_true rfl) (Nat.le_of_ble_eq_true rfl) (by decide) (by decide) (by first | exact ⟨rfl, by omega⟩ | omega)
  · skip
    refine lv_iload_n hx hb dX7_setHarvest_10 rfl (lv_at hl 2 rfl) ?_
    refine lv_iconst (v := iI 0) hx hb dX7_setHarvest_11 rfl ?_
    refine lv_sipush (v := iI 1000) hx hb dX7_setHarvest_12 (by decide) ?_
    refine zc_pi (va_runS (As := [.int (iI x2), .int (iI 0), .int (iI 1000)]) (rest := []) ⟨hx, hb, hml, hown, hts⟩ (kX7_isWithin l dC dI cI cJ cZ x2 0 1000 (by first | assumption | omega | exact b2i_01 _) (by first | assumption | omega | exact b2i_01 _) (by first | assumption | omega | exact b2i_01 _)) (va_cwS 3 hts gX7_setHarvest_X7_isWithin rfl rfl rfl (by decide +kernel) ⟨Nat.le_of_ble_eq_true rfl, Nat.le_of_ble_eq_true rfl⟩) (zqS hK hP [] rfl) rfl rfl hl.1 rfl (lv_room (Nat.le_of_ble_eq_true rfl)) dX7_setHarvest_15 ⟨Nat.le_of_ble_eq_true rfl, Nat.le_of_ble_eq_true rfl⟩) ?_
    refine zb_fne (tgt := 31) hx hb dX7_setHarvest_18 (by decide) (fun c_2 => ?_) (fun c_2 => ?_)
    · skip
      refine lv_aload_n hx hb dX7_setHarvest_31 rfl (lv_at hl 0 rfl) ?_
      refine va_get (D := (dC, dI)) (ci := 7) (v := .ref (q 24)) (C := RX7) (T := TX7) (N := 13) hx hb hts hinX7 hown hK.1 hP 0 rfl rfl 7 (by decide) (hts _ (List.mem_of_getElem? (i := 3) rfl)) (fun _ h9 => h9) rfl dX7_setHarvest_32 ?_
      refine va_getN (D := (dC, dI)) (ci := 0) (v := .ref (q 25)) (C := RX0) (T := TX0) (N := 4) (host := "SleepPlanner") hx hb hts hinX0 hown hK.1 hP 24 rfl rfl 0 (by decide) (va_Nw.use rfl (hK.2.1 _ (List.mem_of_getElem? (i := 5) rfl))) (fun _ h9 => h9) rfl dX7_setHarvest_35 ?_
      refine lv_iload_n hx hb dX7_setHarvest_38 rfl (lv_at hl 1 rfl) ?_
      refine lv_iload_n hx hb dX7_setHarvest_39 rfl (lv_at hl 2 rfl) ?_
      refine zc_i (va_runS (As := [.ref (q 25), .int (iI x1), .int (iI x2)]) (rest := []) ⟨hx, hb, hml, hown, hts⟩ (kX7_exchange l dC dI cI cJ cZ (q 25) 24 hv x1 x2 (by first | assumption | omega | exact b2i_01 _) (by first | assumption | omega | exact b2i_01 _) s.heap.size) (va_cwS 3 hts gX7_setHarvest_X7_exchange rfl rfl rfl (by decide +kernel) ⟨Nat.le_of_ble_eq_true rfl, Nat.le_of_ble_eq_true rfl⟩) (zpS hK hP hD [25] rfl rfl) rfl rfl hl.1 rfl (lv_room (Nat.le_of_ble_eq_true rfl)) dX7_setHarvest_40 ⟨Nat.le_of_ble_eq_true rfl, Nat.le_of_ble_eq_true rfl⟩) hP hD hS hA [25] [0, 1, 2, 3, 4, 5, 6, 7, 8, 9, 10, 11, 12, 13, 14, 15, 16, 17, 18, 19, 20, 21, 22, 23, 24, 26, 27, 28] rfl rfl rfl (by decide) (fun v_5 u_4 H locs r_3 hP hD hS => ?_)
      refine ze_i r_3 ?_
      have hP : va_P (dC, dI) vwCl (wP cI cJ cZ q pw co la vo cpar fr cdee use run nC tdue tlat twk nT edue elat ewk nE len cnt tin sp pe slp late srv (exZ hv 24 x1 x2) av bd sh sc lt rule now st asl idl idn par div dee) H := hP.sub [0, 1, 2, 3, 4, 5, 6, 7, 8, 9, 10, 11, 12, 13, 14, 15, 16, 17, 18, 19, 20, 21, 22, 23, 24, 28, 25, 26, 27] (z_fm rfl)
      have hD : va_D A (wP cI cJ cZ q pw co la vo cpar fr cdee use run nC tdue tlat twk nT edue elat ewk nE len cnt tin sp pe slp late srv (exZ hv 24 x1 x2) av bd sh sc lt rule now st asl idl idn par div dee) := hD.sub [0, 1, 2, 3, 4, 5, 6, 7, 8, 9, 10, 11, 12, 13, 14, 15, 16, 17, 18, 19, 20, 21, 22, 23, 24, 28, 25, 26, 27] (by decide) rfl
      subst hQ
      refine vx_ret ?_
      have w_6 : (uZ hv x1 x2) = (exZ hv 24 x1 x2) := by exact (exZ_i (by omega)).symm
      have hP : va_P (dC, dI) vwCl (wP cI cJ cZ q pw co la vo cpar fr cdee use run nC tdue tlat twk nT edue elat ewk nE len cnt tin sp pe slp late srv (uZ hv x1 x2) av bd sh sc lt rule now st asl idl idn par div dee) H := by rw [w_6]; exact hP
      have hD : va_D A (wP cI cJ cZ q pw co la vo cpar fr cdee use run nC tdue tlat twk nT edue elat ewk nE len cnt tin sp pe slp late srv (uZ hv x1 x2) av bd sh sc lt rule now st asl idl idn par div dee) := by rw [w_6]; exact hD
      refine W.widen (k := 1) (n := 6) (by decide) (by decide) ?_
      exact zret_i (W1 := fun _ : Unit => wP cI cJ cZ q pw co la vo cpar fr cdee use run nC tdue tlat twk nT edue elat ewk nE len cnt tin sp pe slp late srv (uZ hv x1 x2) av bd sh sc lt rule now st asl idl idn par div dee) () hx hb hr hP hD hS hlocks dX7_setHarvest_43 (by exact ⟨rdZ_i (by omega), by omega⟩)
    · skip
      subst hQ
      exact zthrow (cls := xA) (text := "hour or energy is out of range") (ik := 82) (is := 209) (ic := 86) hx hb htr hown hX hS hP hD hA (hl.1.trans hml.symm) htab hlocks hts (by decide +kernel) (by decide +kernel) (List.mem_of_getElem? (i := 1) rfl) (List.mem_of_getElem? (i := 2) rfl) (fun w h => List.mem_cons_of_mem _ (List.mem_append_right _ h)) zx_n1 zx_g1 (List.mem_of_getElem? (i := 16) rfl) dX7_setHarvest_21 dX7_setHarvest_24 dX7_setHarvest_25 dX7_setHarvest_27 dX7_setHarvest_30 (Nat.le_of_ble_eq_true rfl) (Nat.le_of_ble_eq_true rfl) (Nat.le_of_ble_eq_true rfl) (Nat.le_of_ble_eq_true rfl) (by decide) (by decide) (by first | exact ⟨rfl, by omega⟩ | omega)
def rmX7_timers : Room := { frames := 0, cells := 0, slots := 0, locals := 0 }
set_option maxRecDepth 100000 in
set_option maxHeartbeats 4000000 in
theorem kX7_timers (l : Launch) (dC : Nat → ClassId) (dI : Nat → Nat → Nat) (cI cJ cZ : ClassId) (q : Nat → Nat)  (pw : Int → Int) (co : Int → Int) (la : Int → Int) (vo : Int → Int) (cpar : Int → Int) (fr : Int → Int) (cdee : Int → Int) (use : Int → Int) (run : Int → Int) (nC : Int) (tdue : Int → Int) (tlat : Int → Int) (twk : Int → Int) (nT : Int) (edue : Int → Int) (elat : Int → Int) (ewk : Int → Int) (nE : Int) (len : Int → Int) (cnt : Int) (tin : Int → Int) (sp : Int) (pe : Int) (slp : Int) (late : Int) (srv : Int) (hv : Int → Int) (av : Int) (bd : Int) (sh : Int) (sc : Int → Int) (lt : Int → Int) (rule : Int) (now : Int) (st : Int) (asl : Int) (idl : Int → Int) (idn : Int) (par : Int → Int) (div : Int → Int) (dee : Int → Int)  : zPi l yX7_timers wsX7_timers rmX7_timers (dC, dI) (zT cI cJ cZ) (wP cI cJ cZ q pw co la vo cpar fr cdee use run nC tdue tlat twk nT edue elat ewk nE len cnt tin sp pe slp late srv hv av bd sh sc lt rule now st asl idl idn par div dee) [.ref (q 0)] (nT) := by
  refine zent_pi (cc := cX7_timers) (maxL := 1) (ret := (some .int)) (by decide +kernel) rfl (Nat.le_of_ble_eq_true rfl) ?_
  intro p e s m below meth c ls hE hP hK hl
  obtain ⟨hx, hb, hr, hml, hown, hts, hlocks, hmn⟩ := hE
  have hinX7 : ∀ w ∈ u_ws RX7 TX7 13, w ∈ wsX7_timers := by decide +kernel
  have hinX3 : ∀ w ∈ u_ws RX3 TX3 4, w ∈ wsX7_timers := by decide +kernel
  have hl : lv_has ls 1 [(0, .ref (q 0))] := hl
  refine z_gen (fun Q hQ => ?_)
  refine lv_aload_n hx hb dX7_timers_0 rfl (lv_at hl 0 rfl) ?_
  refine va_get (D := (dC, dI)) (ci := 7) (v := .ref (q 12)) (C := RX7) (T := TX7) (N := 13) hx hb hts hinX7 hown hK.1 hP 0 rfl rfl 3 (by decide) (hts _ (List.mem_of_getElem? (i := 1) rfl)) (fun _ h9 => h9) rfl dX7_timers_1 ?_
  refine va_getN (D := (dC, dI)) (ci := 3) (v := .int (iI nT)) (C := RX3) (T := TX3) (N := 4) (host := "SleepPlanner") hx hb hts hinX3 hown hK.1 hP 12 rfl rfl 3 (by decide) (va_Nw.use rfl (hK.2.1 _ (List.mem_of_getElem? (i := 10) rfl))) (fun _ h9 => h9) rfl dX7_timers_4 ?_
  subst hQ
  exact zret_pi hx hb hr hlocks dX7_timers_7 (by rfl)
def rmX7_now : Room := { frames := 0, cells := 0, slots := 0, locals := 0 }
set_option maxRecDepth 100000 in
set_option maxHeartbeats 4000000 in
theorem kX7_now (l : Launch) (dC : Nat → ClassId) (dI : Nat → Nat → Nat) (cI cJ cZ : ClassId) (q : Nat → Nat)  (pw : Int → Int) (co : Int → Int) (la : Int → Int) (vo : Int → Int) (cpar : Int → Int) (fr : Int → Int) (cdee : Int → Int) (use : Int → Int) (run : Int → Int) (nC : Int) (tdue : Int → Int) (tlat : Int → Int) (twk : Int → Int) (nT : Int) (edue : Int → Int) (elat : Int → Int) (ewk : Int → Int) (nE : Int) (len : Int → Int) (cnt : Int) (tin : Int → Int) (sp : Int) (pe : Int) (slp : Int) (late : Int) (srv : Int) (hv : Int → Int) (av : Int) (bd : Int) (sh : Int) (sc : Int → Int) (lt : Int → Int) (rule : Int) (now : Int) (st : Int) (asl : Int) (idl : Int → Int) (idn : Int) (par : Int → Int) (div : Int → Int) (dee : Int → Int)  : zPi l yX7_now wsX7_now rmX7_now (dC, dI) (zT cI cJ cZ) (wP cI cJ cZ q pw co la vo cpar fr cdee use run nC tdue tlat twk nT edue elat ewk nE len cnt tin sp pe slp late srv hv av bd sh sc lt rule now st asl idl idn par div dee) [.ref (q 0)] (now) := by
  refine zent_pi (cc := cX7_now) (maxL := 1) (ret := (some .int)) (by decide +kernel) rfl (Nat.le_of_ble_eq_true rfl) ?_
  intro p e s m below meth c ls hE hP hK hl
  obtain ⟨hx, hb, hr, hml, hown, hts, hlocks, hmn⟩ := hE
  have hinX7 : ∀ w ∈ u_ws RX7 TX7 13, w ∈ wsX7_now := by decide +kernel
  have hl : lv_has ls 1 [(0, .ref (q 0))] := hl
  refine z_gen (fun Q hQ => ?_)
  refine lv_aload_n hx hb dX7_now_0 rfl (lv_at hl 0 rfl) ?_
  refine va_get (D := (dC, dI)) (ci := 7) (v := .int (iI now)) (C := RX7) (T := TX7) (N := 13) hx hb hts hinX7 hown hK.1 hP 0 rfl rfl 10 (by decide) (hts _ (List.mem_of_getElem? (i := 1) rfl)) (fun _ h9 => h9) rfl dX7_now_1 ?_
  subst hQ
  exact zret_pi hx hb hr hlocks dX7_now_4 (by rfl)
def rmX7_state : Room := { frames := 0, cells := 0, slots := 0, locals := 0 }
set_option maxRecDepth 100000 in
set_option maxHeartbeats 4000000 in
theorem kX7_state (l : Launch) (dC : Nat → ClassId) (dI : Nat → Nat → Nat) (cI cJ cZ : ClassId) (q : Nat → Nat)  (pw : Int → Int) (co : Int → Int) (la : Int → Int) (vo : Int → Int) (cpar : Int → Int) (fr : Int → Int) (cdee : Int → Int) (use : Int → Int) (run : Int → Int) (nC : Int) (tdue : Int → Int) (tlat : Int → Int) (twk : Int → Int) (nT : Int) (edue : Int → Int) (elat : Int → Int) (ewk : Int → Int) (nE : Int) (len : Int → Int) (cnt : Int) (tin : Int → Int) (sp : Int) (pe : Int) (slp : Int) (late : Int) (srv : Int) (hv : Int → Int) (av : Int) (bd : Int) (sh : Int) (sc : Int → Int) (lt : Int → Int) (rule : Int) (now : Int) (st : Int) (asl : Int) (idl : Int → Int) (idn : Int) (par : Int → Int) (div : Int → Int) (dee : Int → Int)  : zPi l yX7_state wsX7_state rmX7_state (dC, dI) (zT cI cJ cZ) (wP cI cJ cZ q pw co la vo cpar fr cdee use run nC tdue tlat twk nT edue elat ewk nE len cnt tin sp pe slp late srv hv av bd sh sc lt rule now st asl idl idn par div dee) [.ref (q 0)] (st) := by
  refine zent_pi (cc := cX7_state) (maxL := 1) (ret := (some .int)) (by decide +kernel) rfl (Nat.le_of_ble_eq_true rfl) ?_
  intro p e s m below meth c ls hE hP hK hl
  obtain ⟨hx, hb, hr, hml, hown, hts, hlocks, hmn⟩ := hE
  have hinX7 : ∀ w ∈ u_ws RX7 TX7 13, w ∈ wsX7_state := by decide +kernel
  have hl : lv_has ls 1 [(0, .ref (q 0))] := hl
  refine z_gen (fun Q hQ => ?_)
  refine lv_aload_n hx hb dX7_state_0 rfl (lv_at hl 0 rfl) ?_
  refine va_get (D := (dC, dI)) (ci := 7) (v := .int (iI st)) (C := RX7) (T := TX7) (N := 13) hx hb hts hinX7 hown hK.1 hP 0 rfl rfl 11 (by decide) (hts _ (List.mem_of_getElem? (i := 1) rfl)) (fun _ h9 => h9) rfl dX7_state_1 ?_
  subst hQ
  exact zret_pi hx hb hr hlocks dX7_state_4 (by rfl)
def rmX7_sleeps : Room := { frames := 0, cells := 0, slots := 0, locals := 0 }
set_option maxRecDepth 100000 in
set_option maxHeartbeats 4000000 in
theorem kX7_sleeps (l : Launch) (dC : Nat → ClassId) (dI : Nat → Nat → Nat) (cI cJ cZ : ClassId) (q : Nat → Nat)  (pw : Int → Int) (co : Int → Int) (la : Int → Int) (vo : Int → Int) (cpar : Int → Int) (fr : Int → Int) (cdee : Int → Int) (use : Int → Int) (run : Int → Int) (nC : Int) (tdue : Int → Int) (tlat : Int → Int) (twk : Int → Int) (nT : Int) (edue : Int → Int) (elat : Int → Int) (ewk : Int → Int) (nE : Int) (len : Int → Int) (cnt : Int) (tin : Int → Int) (sp : Int) (pe : Int) (slp : Int) (late : Int) (srv : Int) (hv : Int → Int) (av : Int) (bd : Int) (sh : Int) (sc : Int → Int) (lt : Int → Int) (rule : Int) (now : Int) (st : Int) (asl : Int) (idl : Int → Int) (idn : Int) (par : Int → Int) (div : Int → Int) (dee : Int → Int)  : zPi l yX7_sleeps wsX7_sleeps rmX7_sleeps (dC, dI) (zT cI cJ cZ) (wP cI cJ cZ q pw co la vo cpar fr cdee use run nC tdue tlat twk nT edue elat ewk nE len cnt tin sp pe slp late srv hv av bd sh sc lt rule now st asl idl idn par div dee) [.ref (q 0)] (slp) := by
  refine zent_pi (cc := cX7_sleeps) (maxL := 1) (ret := (some .int)) (by decide +kernel) rfl (Nat.le_of_ble_eq_true rfl) ?_
  intro p e s m below meth c ls hE hP hK hl
  obtain ⟨hx, hb, hr, hml, hown, hts, hlocks, hmn⟩ := hE
  have hinX7 : ∀ w ∈ u_ws RX7 TX7 13, w ∈ wsX7_sleeps := by decide +kernel
  have hinX4 : ∀ w ∈ u_ws RX4 TX4 6, w ∈ wsX7_sleeps := by decide +kernel
  have hl : lv_has ls 1 [(0, .ref (q 0))] := hl
  refine z_gen (fun Q hQ => ?_)
  refine lv_aload_n hx hb dX7_sleeps_0 rfl (lv_at hl 0 rfl) ?_
  refine va_get (D := (dC, dI)) (ci := 7) (v := .ref (q 22)) (C := RX7) (T := TX7) (N := 13) hx hb hts hinX7 hown hK.1 hP 0 rfl rfl 6 (by decide) (hts _ (List.mem_of_getElem? (i := 1) rfl)) (fun _ h9 => h9) rfl dX7_sleeps_1 ?_
  refine va_getN (D := (dC, dI)) (ci := 4) (v := .int (iI slp)) (C := RX4) (T := TX4) (N := 6) (host := "SleepPlanner") hx hb hts hinX4 hown hK.1 hP 22 rfl rfl 3 (by decide) (va_Nw.use rfl (hK.2.1 _ (List.mem_of_getElem? (i := 2) rfl))) (fun _ h9 => h9) rfl dX7_sleeps_4 ?_
  subst hQ
  exact zret_pi hx hb hr hlocks dX7_sleeps_7 (by rfl)
def rmX7_lateness : Room := { frames := 0, cells := 0, slots := 0, locals := 0 }
set_option maxRecDepth 100000 in
set_option maxHeartbeats 4000000 in
theorem kX7_lateness (l : Launch) (dC : Nat → ClassId) (dI : Nat → Nat → Nat) (cI cJ cZ : ClassId) (q : Nat → Nat)  (pw : Int → Int) (co : Int → Int) (la : Int → Int) (vo : Int → Int) (cpar : Int → Int) (fr : Int → Int) (cdee : Int → Int) (use : Int → Int) (run : Int → Int) (nC : Int) (tdue : Int → Int) (tlat : Int → Int) (twk : Int → Int) (nT : Int) (edue : Int → Int) (elat : Int → Int) (ewk : Int → Int) (nE : Int) (len : Int → Int) (cnt : Int) (tin : Int → Int) (sp : Int) (pe : Int) (slp : Int) (late : Int) (srv : Int) (hv : Int → Int) (av : Int) (bd : Int) (sh : Int) (sc : Int → Int) (lt : Int → Int) (rule : Int) (now : Int) (st : Int) (asl : Int) (idl : Int → Int) (idn : Int) (par : Int → Int) (div : Int → Int) (dee : Int → Int)  : zPi l yX7_lateness wsX7_lateness rmX7_lateness (dC, dI) (zT cI cJ cZ) (wP cI cJ cZ q pw co la vo cpar fr cdee use run nC tdue tlat twk nT edue elat ewk nE len cnt tin sp pe slp late srv hv av bd sh sc lt rule now st asl idl idn par div dee) [.ref (q 0)] (late) := by
  refine zent_pi (cc := cX7_lateness) (maxL := 1) (ret := (some .int)) (by decide +kernel) rfl (Nat.le_of_ble_eq_true rfl) ?_
  intro p e s m below meth c ls hE hP hK hl
  obtain ⟨hx, hb, hr, hml, hown, hts, hlocks, hmn⟩ := hE
  have hinX7 : ∀ w ∈ u_ws RX7 TX7 13, w ∈ wsX7_lateness := by decide +kernel
  have hinX4 : ∀ w ∈ u_ws RX4 TX4 6, w ∈ wsX7_lateness := by decide +kernel
  have hl : lv_has ls 1 [(0, .ref (q 0))] := hl
  refine z_gen (fun Q hQ => ?_)
  refine lv_aload_n hx hb dX7_lateness_0 rfl (lv_at hl 0 rfl) ?_
  refine va_get (D := (dC, dI)) (ci := 7) (v := .ref (q 22)) (C := RX7) (T := TX7) (N := 13) hx hb hts hinX7 hown hK.1 hP 0 rfl rfl 6 (by decide) (hts _ (List.mem_of_getElem? (i := 1) rfl)) (fun _ h9 => h9) rfl dX7_lateness_1 ?_
  refine va_getN (D := (dC, dI)) (ci := 4) (v := .int (iI late)) (C := RX4) (T := TX4) (N := 6) (host := "SleepPlanner") hx hb hts hinX4 hown hK.1 hP 22 rfl rfl 4 (by decide) (va_Nw.use rfl (hK.2.1 _ (List.mem_of_getElem? (i := 3) rfl))) (fun _ h9 => h9) rfl dX7_lateness_4 ?_
  subst hQ
  exact zret_pi hx hb hr hlocks dX7_lateness_7 (by rfl)
def rmX7_served : Room := { frames := 0, cells := 0, slots := 0, locals := 0 }
set_option maxRecDepth 100000 in
set_option maxHeartbeats 4000000 in
theorem kX7_served (l : Launch) (dC : Nat → ClassId) (dI : Nat → Nat → Nat) (cI cJ cZ : ClassId) (q : Nat → Nat)  (pw : Int → Int) (co : Int → Int) (la : Int → Int) (vo : Int → Int) (cpar : Int → Int) (fr : Int → Int) (cdee : Int → Int) (use : Int → Int) (run : Int → Int) (nC : Int) (tdue : Int → Int) (tlat : Int → Int) (twk : Int → Int) (nT : Int) (edue : Int → Int) (elat : Int → Int) (ewk : Int → Int) (nE : Int) (len : Int → Int) (cnt : Int) (tin : Int → Int) (sp : Int) (pe : Int) (slp : Int) (late : Int) (srv : Int) (hv : Int → Int) (av : Int) (bd : Int) (sh : Int) (sc : Int → Int) (lt : Int → Int) (rule : Int) (now : Int) (st : Int) (asl : Int) (idl : Int → Int) (idn : Int) (par : Int → Int) (div : Int → Int) (dee : Int → Int)  : zPi l yX7_served wsX7_served rmX7_served (dC, dI) (zT cI cJ cZ) (wP cI cJ cZ q pw co la vo cpar fr cdee use run nC tdue tlat twk nT edue elat ewk nE len cnt tin sp pe slp late srv hv av bd sh sc lt rule now st asl idl idn par div dee) [.ref (q 0)] (srv) := by
  refine zent_pi (cc := cX7_served) (maxL := 1) (ret := (some .int)) (by decide +kernel) rfl (Nat.le_of_ble_eq_true rfl) ?_
  intro p e s m below meth c ls hE hP hK hl
  obtain ⟨hx, hb, hr, hml, hown, hts, hlocks, hmn⟩ := hE
  have hinX7 : ∀ w ∈ u_ws RX7 TX7 13, w ∈ wsX7_served := by decide +kernel
  have hinX4 : ∀ w ∈ u_ws RX4 TX4 6, w ∈ wsX7_served := by decide +kernel
  have hl : lv_has ls 1 [(0, .ref (q 0))] := hl
  refine z_gen (fun Q hQ => ?_)
  refine lv_aload_n hx hb dX7_served_0 rfl (lv_at hl 0 rfl) ?_
  refine va_get (D := (dC, dI)) (ci := 7) (v := .ref (q 22)) (C := RX7) (T := TX7) (N := 13) hx hb hts hinX7 hown hK.1 hP 0 rfl rfl 6 (by decide) (hts _ (List.mem_of_getElem? (i := 1) rfl)) (fun _ h9 => h9) rfl dX7_served_1 ?_
  refine va_getN (D := (dC, dI)) (ci := 4) (v := .int (iI srv)) (C := RX4) (T := TX4) (N := 6) (host := "SleepPlanner") hx hb hts hinX4 hown hK.1 hP 22 rfl rfl 5 (by decide) (va_Nw.use rfl (hK.2.1 _ (List.mem_of_getElem? (i := 4) rfl))) (fun _ h9 => h9) rfl dX7_served_4 ?_
  subst hQ
  exact zret_pi hx hb hr hlocks dX7_served_7 (by rfl)
def rmX7_available : Room := { frames := 0, cells := 0, slots := 0, locals := 0 }
set_option maxRecDepth 100000 in
set_option maxHeartbeats 4000000 in
theorem kX7_available (l : Launch) (dC : Nat → ClassId) (dI : Nat → Nat → Nat) (cI cJ cZ : ClassId) (q : Nat → Nat)  (pw : Int → Int) (co : Int → Int) (la : Int → Int) (vo : Int → Int) (cpar : Int → Int) (fr : Int → Int) (cdee : Int → Int) (use : Int → Int) (run : Int → Int) (nC : Int) (tdue : Int → Int) (tlat : Int → Int) (twk : Int → Int) (nT : Int) (edue : Int → Int) (elat : Int → Int) (ewk : Int → Int) (nE : Int) (len : Int → Int) (cnt : Int) (tin : Int → Int) (sp : Int) (pe : Int) (slp : Int) (late : Int) (srv : Int) (hv : Int → Int) (av : Int) (bd : Int) (sh : Int) (sc : Int → Int) (lt : Int → Int) (rule : Int) (now : Int) (st : Int) (asl : Int) (idl : Int → Int) (idn : Int) (par : Int → Int) (div : Int → Int) (dee : Int → Int)  : zPi l yX7_available wsX7_available rmX7_available (dC, dI) (zT cI cJ cZ) (wP cI cJ cZ q pw co la vo cpar fr cdee use run nC tdue tlat twk nT edue elat ewk nE len cnt tin sp pe slp late srv hv av bd sh sc lt rule now st asl idl idn par div dee) [.ref (q 0)] (av) := by
  refine zent_pi (cc := cX7_available) (maxL := 1) (ret := (some .int)) (by decide +kernel) rfl (Nat.le_of_ble_eq_true rfl) ?_
  intro p e s m below meth c ls hE hP hK hl
  obtain ⟨hx, hb, hr, hml, hown, hts, hlocks, hmn⟩ := hE
  have hinX7 : ∀ w ∈ u_ws RX7 TX7 13, w ∈ wsX7_available := by decide +kernel
  have hinX0 : ∀ w ∈ u_ws RX0 TX0 4, w ∈ wsX7_available := by decide +kernel
  have hl : lv_has ls 1 [(0, .ref (q 0))] := hl
  refine z_gen (fun Q hQ => ?_)
  refine lv_aload_n hx hb dX7_available_0 rfl (lv_at hl 0 rfl) ?_
  refine va_get (D := (dC, dI)) (ci := 7) (v := .ref (q 24)) (C := RX7) (T := TX7) (N := 13) hx hb hts hinX7 hown hK.1 hP 0 rfl rfl 7 (by decide) (hts _ (List.mem_of_getElem? (i := 1) rfl)) (fun _ h9 => h9) rfl dX7_available_1 ?_
  refine va_getN (D := (dC, dI)) (ci := 0) (v := .int (iI av)) (C := RX0) (T := TX0) (N := 4) (host := "SleepPlanner") hx hb hts hinX0 hown hK.1 hP 24 rfl rfl 1 (by decide) (va_Nw.use rfl (hK.2.1 _ (List.mem_of_getElem? (i := 6) rfl))) (fun _ h9 => h9) rfl dX7_available_4 ?_
  subst hQ
  exact zret_pi hx hb hr hlocks dX7_available_7 (by rfl)
def rmX7_bound : Room := { frames := 0, cells := 0, slots := 0, locals := 0 }
set_option maxRecDepth 100000 in
set_option maxHeartbeats 4000000 in
theorem kX7_bound (l : Launch) (dC : Nat → ClassId) (dI : Nat → Nat → Nat) (cI cJ cZ : ClassId) (q : Nat → Nat)  (pw : Int → Int) (co : Int → Int) (la : Int → Int) (vo : Int → Int) (cpar : Int → Int) (fr : Int → Int) (cdee : Int → Int) (use : Int → Int) (run : Int → Int) (nC : Int) (tdue : Int → Int) (tlat : Int → Int) (twk : Int → Int) (nT : Int) (edue : Int → Int) (elat : Int → Int) (ewk : Int → Int) (nE : Int) (len : Int → Int) (cnt : Int) (tin : Int → Int) (sp : Int) (pe : Int) (slp : Int) (late : Int) (srv : Int) (hv : Int → Int) (av : Int) (bd : Int) (sh : Int) (sc : Int → Int) (lt : Int → Int) (rule : Int) (now : Int) (st : Int) (asl : Int) (idl : Int → Int) (idn : Int) (par : Int → Int) (div : Int → Int) (dee : Int → Int)  : zPi l yX7_bound wsX7_bound rmX7_bound (dC, dI) (zT cI cJ cZ) (wP cI cJ cZ q pw co la vo cpar fr cdee use run nC tdue tlat twk nT edue elat ewk nE len cnt tin sp pe slp late srv hv av bd sh sc lt rule now st asl idl idn par div dee) [.ref (q 0)] (bd) := by
  refine zent_pi (cc := cX7_bound) (maxL := 1) (ret := (some .int)) (by decide +kernel) rfl (Nat.le_of_ble_eq_true rfl) ?_
  intro p e s m below meth c ls hE hP hK hl
  obtain ⟨hx, hb, hr, hml, hown, hts, hlocks, hmn⟩ := hE
  have hinX7 : ∀ w ∈ u_ws RX7 TX7 13, w ∈ wsX7_bound := by decide +kernel
  have hinX0 : ∀ w ∈ u_ws RX0 TX0 4, w ∈ wsX7_bound := by decide +kernel
  have hl : lv_has ls 1 [(0, .ref (q 0))] := hl
  refine z_gen (fun Q hQ => ?_)
  refine lv_aload_n hx hb dX7_bound_0 rfl (lv_at hl 0 rfl) ?_
  refine va_get (D := (dC, dI)) (ci := 7) (v := .ref (q 24)) (C := RX7) (T := TX7) (N := 13) hx hb hts hinX7 hown hK.1 hP 0 rfl rfl 7 (by decide) (hts _ (List.mem_of_getElem? (i := 1) rfl)) (fun _ h9 => h9) rfl dX7_bound_1 ?_
  refine va_getN (D := (dC, dI)) (ci := 0) (v := .int (iI bd)) (C := RX0) (T := TX0) (N := 4) (host := "SleepPlanner") hx hb hts hinX0 hown hK.1 hP 24 rfl rfl 2 (by decide) (va_Nw.use rfl (hK.2.1 _ (List.mem_of_getElem? (i := 7) rfl))) (fun _ h9 => h9) rfl dX7_bound_4 ?_
  subst hQ
  exact zret_pi hx hb hr hlocks dX7_bound_7 (by rfl)
def rmX7_shortTicks : Room := { frames := 0, cells := 0, slots := 0, locals := 0 }
set_option maxRecDepth 100000 in
set_option maxHeartbeats 4000000 in
theorem kX7_shortTicks (l : Launch) (dC : Nat → ClassId) (dI : Nat → Nat → Nat) (cI cJ cZ : ClassId) (q : Nat → Nat)  (pw : Int → Int) (co : Int → Int) (la : Int → Int) (vo : Int → Int) (cpar : Int → Int) (fr : Int → Int) (cdee : Int → Int) (use : Int → Int) (run : Int → Int) (nC : Int) (tdue : Int → Int) (tlat : Int → Int) (twk : Int → Int) (nT : Int) (edue : Int → Int) (elat : Int → Int) (ewk : Int → Int) (nE : Int) (len : Int → Int) (cnt : Int) (tin : Int → Int) (sp : Int) (pe : Int) (slp : Int) (late : Int) (srv : Int) (hv : Int → Int) (av : Int) (bd : Int) (sh : Int) (sc : Int → Int) (lt : Int → Int) (rule : Int) (now : Int) (st : Int) (asl : Int) (idl : Int → Int) (idn : Int) (par : Int → Int) (div : Int → Int) (dee : Int → Int)  : zPi l yX7_shortTicks wsX7_shortTicks rmX7_shortTicks (dC, dI) (zT cI cJ cZ) (wP cI cJ cZ q pw co la vo cpar fr cdee use run nC tdue tlat twk nT edue elat ewk nE len cnt tin sp pe slp late srv hv av bd sh sc lt rule now st asl idl idn par div dee) [.ref (q 0)] (sh) := by
  refine zent_pi (cc := cX7_shortTicks) (maxL := 1) (ret := (some .int)) (by decide +kernel) rfl (Nat.le_of_ble_eq_true rfl) ?_
  intro p e s m below meth c ls hE hP hK hl
  obtain ⟨hx, hb, hr, hml, hown, hts, hlocks, hmn⟩ := hE
  have hinX7 : ∀ w ∈ u_ws RX7 TX7 13, w ∈ wsX7_shortTicks := by decide +kernel
  have hinX0 : ∀ w ∈ u_ws RX0 TX0 4, w ∈ wsX7_shortTicks := by decide +kernel
  have hl : lv_has ls 1 [(0, .ref (q 0))] := hl
  refine z_gen (fun Q hQ => ?_)
  refine lv_aload_n hx hb dX7_shortTicks_0 rfl (lv_at hl 0 rfl) ?_
  refine va_get (D := (dC, dI)) (ci := 7) (v := .ref (q 24)) (C := RX7) (T := TX7) (N := 13) hx hb hts hinX7 hown hK.1 hP 0 rfl rfl 7 (by decide) (hts _ (List.mem_of_getElem? (i := 1) rfl)) (fun _ h9 => h9) rfl dX7_shortTicks_1 ?_
  refine va_getN (D := (dC, dI)) (ci := 0) (v := .int (iI sh)) (C := RX0) (T := TX0) (N := 4) (host := "SleepPlanner") hx hb hts hinX0 hown hK.1 hP 24 rfl rfl 3 (by decide) (va_Nw.use rfl (hK.2.1 _ (List.mem_of_getElem? (i := 8) rfl))) (fun _ h9 => h9) rfl dX7_shortTicks_4 ?_
  subst hQ
  exact zret_pi hx hb hr hlocks dX7_shortTicks_7 (by rfl)
def rmX7_spent : Room := { frames := 0, cells := 0, slots := 0, locals := 0 }
set_option maxRecDepth 100000 in
set_option maxHeartbeats 4000000 in
theorem kX7_spent (l : Launch) (dC : Nat → ClassId) (dI : Nat → Nat → Nat) (cI cJ cZ : ClassId) (q : Nat → Nat)  (pw : Int → Int) (co : Int → Int) (la : Int → Int) (vo : Int → Int) (cpar : Int → Int) (fr : Int → Int) (cdee : Int → Int) (use : Int → Int) (run : Int → Int) (nC : Int) (tdue : Int → Int) (tlat : Int → Int) (twk : Int → Int) (nT : Int) (edue : Int → Int) (elat : Int → Int) (ewk : Int → Int) (nE : Int) (len : Int → Int) (cnt : Int) (tin : Int → Int) (sp : Int) (pe : Int) (slp : Int) (late : Int) (srv : Int) (hv : Int → Int) (av : Int) (bd : Int) (sh : Int) (sc : Int → Int) (lt : Int → Int) (rule : Int) (now : Int) (st : Int) (asl : Int) (idl : Int → Int) (idn : Int) (par : Int → Int) (div : Int → Int) (dee : Int → Int)  : zPl l yX7_spent wsX7_spent rmX7_spent (dC, dI) (zT cI cJ cZ) (wP cI cJ cZ q pw co la vo cpar fr cdee use run nC tdue tlat twk nT edue elat ewk nE len cnt tin sp pe slp late srv hv av bd sh sc lt rule now st asl idl idn par div dee) [.ref (q 0)] (sp) := by
  refine zent_pl (cc := cX7_spent) (maxL := 1) (ret := (some .long)) (by decide +kernel) rfl (Nat.le_of_ble_eq_true rfl) ?_
  intro p e s m below meth c ls hE hP hK hl
  obtain ⟨hx, hb, hr, hml, hown, hts, hlocks, hmn⟩ := hE
  have hinX7 : ∀ w ∈ u_ws RX7 TX7 13, w ∈ wsX7_spent := by decide +kernel
  have hinX4 : ∀ w ∈ u_ws RX4 TX4 6, w ∈ wsX7_spent := by decide +kernel
  have hl : lv_has ls 1 [(0, .ref (q 0))] := hl
  refine z_gen (fun Q hQ => ?_)
  refine lv_aload_n hx hb dX7_spent_0 rfl (lv_at hl 0 rfl) ?_
  refine va_get (D := (dC, dI)) (ci := 7) (v := .ref (q 22)) (C := RX7) (T := TX7) (N := 13) hx hb hts hinX7 hown hK.1 hP 0 rfl rfl 6 (by decide) (hts _ (List.mem_of_getElem? (i := 1) rfl)) (fun _ h9 => h9) rfl dX7_spent_1 ?_
  refine va_getN (D := (dC, dI)) (ci := 4) (v := .long (lI sp)) (C := RX4) (T := TX4) (N := 6) (host := "SleepPlanner") hx hb hts hinX4 hown hK.1 hP 22 rfl rfl 1 (by decide) (va_Nw.use rfl (hK.2.1 _ (List.mem_of_getElem? (i := 0) rfl))) (fun _ h9 => h9) rfl dX7_spent_4 ?_
  subst hQ
  exact zret_pl hx hb hr hlocks dX7_spent_7 (by rfl)
