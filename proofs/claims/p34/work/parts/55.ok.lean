def rmX7_setState_ok : Room := { frames := 6, cells := 0, slots := 0, locals := 90 }
set_option maxRecDepth 100000 in
set_option maxHeartbeats 4000000 in
theorem kX7_setState_ok (l : Launch) (dC : Nat → ClassId) (dI : Nat → Nat → Nat) (cI cJ cZ : ClassId) (q : Nat → Nat)  (pw : Int → Int) (co : Int → Int) (la : Int → Int) (vo : Int → Int) (cpar : Int → Int) (fr : Int → Int) (cdee : Int → Int) (use : Int → Int) (run : Int → Int) (nC : Int) (tdue : Int → Int) (tlat : Int → Int) (twk : Int → Int) (nT : Int) (edue : Int → Int) (elat : Int → Int) (ewk : Int → Int) (nE : Int) (len : Int → Int) (cnt : Int) (tin : Int → Int) (sp : Int) (pe : Int) (slp : Int) (late : Int) (srv : Int) (hv : Int → Int) (av : Int) (bd : Int) (sh : Int) (sc : Int → Int) (lt : Int → Int) (rule : Int) (now : Int) (st : Int) (asl : Int) (idl : Int → Int) (idn : Int) (par : Int → Int) (div : Int → Int) (dee : Int → Int) (x1 x2 x3 x4 : Int) (hx1 : zR x1) (hx2 : zR x2) (hx3 : zR x3) (hx4 : zR x4) (hst : 0 ≤ st ∧ st ≤ 3) (hpw : rgZ pw 4 1000) (hco : rgZ co 4 10000) (hla : rgZ la 4 100) (hnow : 0 ≤ now ∧ now ≤ 200000) (hasl : 0 ≤ asl ∧ asl ≤ now) (hid : idR len cnt idl idn) (hok : (1 ≤ x1 ∧ x1 ≤ 3) ∧ (0 ≤ x2 ∧ x2 ≤ 1000) ∧ (0 ≤ x3 ∧ x3 ≤ 10000) ∧ (0 ≤ x4 ∧ x4 ≤ 100)) : zMv l yX7_setState wsX7_setState rmX7_setState_ok (dC, dI) (zT cI cJ cZ) (wP cI cJ cZ q pw co la vo cpar fr cdee use run nC tdue tlat twk nT edue elat ewk nE len cnt tin sp pe slp late srv hv av bd sh sc lt rule now st asl idl idn par div dee) [.ref (q 0), .int (iI x1), .int (iI x2), .int (iI x3), .int (iI x4)] (fun (u9 : Int × Int × Int × (Int → Int) × Int × (Int → Int) × Int) => ((u9.1), (u9.2.1), (u9.2.2.1), (u9.2.2.2.1), (u9.2.2.2.2.1)) = scF pw la st asl now sp pe idl idn ∧ idR (u9.2.2.2.2.2.1) (u9.2.2.2.2.2.2) (u9.2.2.2.1) (u9.2.2.2.2.1)) (fun u9 : Int × Int × Int × (Int → Int) × Int × (Int → Int) × Int => wP cI cJ cZ q (uZ pw x1 x2) (uZ co x1 x3) (uZ la x1 x4) vo cpar fr cdee use run nC tdue tlat twk nT edue elat ewk nE (u9.2.2.2.2.2.1) (u9.2.2.2.2.2.2) tin (u9.2.1) (u9.2.2.1) slp late srv hv av bd sh sc lt rule now (u9.1) asl (u9.2.2.2.1) (u9.2.2.2.2.1) par div dee) 0 0 := by
  refine zent_v (cc := cX7_setState) (maxL := 5) (ret := none) (by decide +kernel) rfl (Nat.le_of_ble_eq_true rfl) ?_
  intro p e s m below meth c A ls hE hP hK hA hD hS hl
  obtain ⟨hx, hb, hr, hml, hown, hts, hlocks, hmn⟩ := hE
  have hinX7 : ∀ w ∈ u_ws RX7 TX7 13, w ∈ wsX7_setState := by decide +kernel
  have hinX6 : ∀ w ∈ u_ws RX6 TX6 3, w ∈ wsX7_setState := by decide +kernel
  have hinX4 : ∀ w ∈ u_ws RX4 TX4 6, w ∈ wsX7_setState := by decide +kernel
  have hinX2 : ∀ w ∈ u_ws RX2 TX2 2, w ∈ wsX7_setState := by decide +kernel
  have hl : lv_has ls 5 [(0, .ref (q 0)), (1, .int (iI x1)), (2, .int (iI x2)), (3, .int (iI x3)), (4, .int (iI x4))] := hl
  refine z_gen (fun Q hQ => ?_)
  refine lv_iload_n hx hb dX7_setState_0 rfl (lv_at hl 1 rfl) ?_
  refine lv_iconst (v := iI 1) hx hb dX7_setState_1 rfl ?_
  refine lv_iconst (v := iI 3) hx hb dX7_setState_2 rfl ?_
  refine zc_pi (va_runS (As := [.int (iI x1), .int (iI 1), .int (iI 3)]) (rest := []) ⟨hx, hb, hml, hown, hts⟩ (kX7_isWithin l dC dI cI cJ cZ x1 1 3 (by first | assumption | omega | exact b2i_01 _) (by first | assumption | omega | exact b2i_01 _) (by first | assumption | omega | exact b2i_01 _)) (va_cwS 3 hts gX7_setState_X7_isWithin rfl rfl rfl (by decide +kernel) ⟨Nat.le_of_ble_eq_true rfl, Nat.le_of_ble_eq_true rfl⟩) (zqS hK hP [] rfl) rfl rfl hl.1 rfl (lv_room (Nat.le_of_ble_eq_true rfl)) dX7_setState_3 ⟨Nat.le_of_ble_eq_true rfl, Nat.le_of_ble_eq_true rfl⟩) ?_
  refine zb_feq (tgt := 42) hx hb dX7_setState_6 (by decide) (fun c_1 => ?_) (fun c_1 => ?_)
  · skip
    exfalso; omega
  · skip
    refine lv_iload_n hx hb dX7_setState_9 rfl (lv_at hl 2 rfl) ?_
    refine lv_iconst (v := iI 0) hx hb dX7_setState_10 rfl ?_
    refine lv_sipush (v := iI 1000) hx hb dX7_setState_11 (by decide) ?_
    refine zc_pi (va_runS (As := [.int (iI x2), .int (iI 0), .int (iI 1000)]) (rest := []) ⟨hx, hb, hml, hown, hts⟩ (kX7_isWithin l dC dI cI cJ cZ x2 0 1000 (by first | assumption | omega | exact b2i_01 _) (by first | assumption | omega | exact b2i_01 _) (by first | assumption | omega | exact b2i_01 _)) (va_cwS 3 hts gX7_setState_X7_isWithin rfl rfl rfl (by decide +kernel) ⟨Nat.le_of_ble_eq_true rfl, Nat.le_of_ble_eq_true rfl⟩) (zqS hK hP [] rfl) rfl rfl hl.1 rfl (lv_room (Nat.le_of_ble_eq_true rfl)) dX7_setState_14 ⟨Nat.le_of_ble_eq_true rfl, Nat.le_of_ble_eq_true rfl⟩) ?_
    refine zb_feq (tgt := 42) hx hb dX7_setState_17 (by decide) (fun c_2 => ?_) (fun c_2 => ?_)
    · skip
      exfalso; omega
    · skip
      refine lv_iload_n hx hb dX7_setState_20 rfl (lv_at hl 3 rfl) ?_
      refine lv_iconst (v := iI 0) hx hb dX7_setState_21 rfl ?_
      refine lv_sipush (v := iI 10000) hx hb dX7_setState_22 (by decide) ?_
      refine zc_pi (va_runS (As := [.int (iI x3), .int (iI 0), .int (iI 10000)]) (rest := []) ⟨hx, hb, hml, hown, hts⟩ (kX7_isWithin l dC dI cI cJ cZ x3 0 10000 (by first | assumption | omega | exact b2i_01 _) (by first | assumption | omega | exact b2i_01 _) (by first | assumption | omega | exact b2i_01 _)) (va_cwS 3 hts gX7_setState_X7_isWithin rfl rfl rfl (by decide +kernel) ⟨Nat.le_of_ble_eq_true rfl, Nat.le_of_ble_eq_true rfl⟩) (zqS hK hP [] rfl) rfl rfl hl.1 rfl (lv_room (Nat.le_of_ble_eq_true rfl)) dX7_setState_25 ⟨Nat.le_of_ble_eq_true rfl, Nat.le_of_ble_eq_true rfl⟩) ?_
      refine zb_feq (tgt := 42) hx hb dX7_setState_28 (by decide) (fun c_3 => ?_) (fun c_3 => ?_)
      · skip
        exfalso; omega
      · skip
        refine lv_iload hx hb dX7_setState_31 (lv_at hl 4 rfl) ?_
        refine lv_iconst (v := iI 0) hx hb dX7_setState_33 rfl ?_
        refine lv_bipush (v := iI 100) hx hb dX7_setState_34 (by decide) ?_
        refine zc_pi (va_runS (As := [.int (iI x4), .int (iI 0), .int (iI 100)]) (rest := []) ⟨hx, hb, hml, hown, hts⟩ (kX7_isWithin l dC dI cI cJ cZ x4 0 100 (by first | assumption | omega | exact b2i_01 _) (by first | assumption | omega | exact b2i_01 _) (by first | assumption | omega | exact b2i_01 _)) (va_cwS 3 hts gX7_setState_X7_isWithin rfl rfl rfl (by decide +kernel) ⟨Nat.le_of_ble_eq_true rfl, Nat.le_of_ble_eq_true rfl⟩) (zqS hK hP [] rfl) rfl rfl hl.1 rfl (lv_room (Nat.le_of_ble_eq_true rfl)) dX7_setState_36 ⟨Nat.le_of_ble_eq_true rfl, Nat.le_of_ble_eq_true rfl⟩) ?_
        refine zb_fne (tgt := 52) hx hb dX7_setState_39 (by decide) (fun c_4 => ?_) (fun c_4 => ?_)
        · skip
          refine lv_aload_n hx hb dX7_setState_52 rfl (lv_at hl 0 rfl) ?_
          refine zc_v (va_runV (As := []) (rest := []) ⟨hx, hb, hml, hown, hts⟩ (kX7_wakeForCall l dC dI cI cJ cZ q pw co la vo cpar fr cdee use run nC tdue tlat twk nT edue elat ewk nE len cnt tin sp pe slp late srv hv av bd sh sc lt rule now st asl idl idn par div dee (by first | assumption | omega | exact b2i_01 _) (by first | assumption | omega | exact b2i_01 _) (by first | assumption | omega | exact b2i_01 _) (by first | assumption | omega | exact b2i_01 _) (by first | assumption | omega | exact b2i_01 _) (by first | assumption | omega | exact b2i_01 _) (by first | assumption | omega | exact b2i_01 _) s.heap.size) (cwV 0 hts gX7_setState_X7_wakeForCall rfl rfl rfl (by decide +kernel) ⟨Nat.le_of_ble_eq_true rfl, Nat.le_of_ble_eq_true rfl⟩) (zpV hK hP hD [0, 1, 2, 3, 4, 5, 6, 7, 8, 9, 10, 11, 12, 13, 14, 15, 16, 17, 18, 19, 20, 21, 22, 23, 24, 25, 26, 27, 28] rfl rfl 0 rfl rfl) rfl rfl hl.1 rfl (lv_room (Nat.le_of_ble_eq_true rfl)) dX7_setState_53 ⟨Nat.le_of_ble_eq_true rfl, Nat.le_of_ble_eq_true rfl⟩) hP hD hS hA [0, 1, 2, 3, 4, 5, 6, 7, 8, 9, 10, 11, 12, 13, 14, 15, 16, 17, 18, 19, 20, 21, 22, 23, 24, 25, 26, 27, 28] [] rfl rfl rfl (by decide) (fun u_6 H locs r_5 hP hD hS => ?_)
          obtain ⟨stx_8, spx_9, pex_10, idlx_11, idnx_12, lenx_13, cntx_14⟩ := u_6
          have r_5 : (stx_8, spx_9, pex_10, idlx_11, idnx_12) = scF pw la st asl now sp pe idl idn ∧ idR lenx_13 cntx_14 idlx_11 idnx_12 := r_5
          have hP : va_P (dC, dI) vwCl (wP cI cJ cZ q pw co la vo cpar fr cdee use run nC tdue tlat twk nT edue elat ewk nE lenx_13 cntx_14 tin spx_9 pex_10 slp late srv hv av bd sh sc lt rule now stx_8 asl idlx_11 idnx_12 par div dee) H := hP
          have hD : va_D A (wP cI cJ cZ q pw co la vo cpar fr cdee use run nC tdue tlat twk nT edue elat ewk nE lenx_13 cntx_14 tin spx_9 pex_10 slp late srv hv av bd sh sc lt rule now stx_8 asl idlx_11 idnx_12 par div dee) := hD
          obtain ⟨hsc9, hid9⟩ := r_5
          refine lv_aload_n hx hb dX7_setState_56 rfl (lv_at hl 0 rfl) ?_
          refine va_get (D := (dC, dI)) (ci := 7) (v := .ref (q 1)) (C := RX7) (T := TX7) (N := 13) hx hb hts hinX7 hown hK.1 hP 0 rfl rfl 0 (by decide) (hts _ (List.mem_of_getElem? (i := 3) rfl)) (fun _ h9 => h9) rfl dX7_setState_57 ?_
          refine lv_iload_n hx hb dX7_setState_60 rfl (lv_at hl 1 rfl) ?_
          refine lv_iload_n hx hb dX7_setState_61 rfl (lv_at hl 2 rfl) ?_
          refine lv_iload_n hx hb dX7_setState_62 rfl (lv_at hl 3 rfl) ?_
          refine lv_iload hx hb dX7_setState_63 (lv_at hl 4 rfl) ?_
          refine zc_v (va_runV (As := [.int (iI x1), .int (iI x2), .int (iI x3), .int (iI x4)]) (rest := []) ⟨hx, hb, hml, hown, hts⟩ (kX6_change l dC dI cI cJ cZ (q 1) (q 2) (q 3) (q 4) pw co la x1 x2 x3 x4 (by first | assumption | omega | exact b2i_01 _) H.size) (cwV 4 hts gX7_setState_X6_change rfl rfl rfl (by decide +kernel) ⟨Nat.le_of_ble_eq_true rfl, Nat.le_of_ble_eq_true rfl⟩) (zpV hK hP hD [1, 2, 3, 4] rfl rfl 1 rfl rfl) rfl rfl hl.1 rfl (lv_room (Nat.le_of_ble_eq_true rfl)) dX7_setState_65 ⟨Nat.le_of_ble_eq_true rfl, Nat.le_of_ble_eq_true rfl⟩) hP hD hS hA [1, 2, 3, 4] [0, 5, 6, 7, 8, 9, 10, 11, 12, 13, 14, 15, 16, 17, 18, 19, 20, 21, 22, 23, 24, 25, 26, 27, 28] rfl rfl rfl (by decide) (fun u_16 H locs r_15 hP hD hS => ?_)
          have hP : va_P (dC, dI) vwCl (wP cI cJ cZ q (uZ pw x1 x2) (uZ co x1 x3) (uZ la x1 x4) vo cpar fr cdee use run nC tdue tlat twk nT edue elat ewk nE lenx_13 cntx_14 tin spx_9 pex_10 slp late srv hv av bd sh sc lt rule now stx_8 asl idlx_11 idnx_12 par div dee) H := hP.sub [0, 25, 26, 27, 28, 1, 2, 3, 4, 5, 6, 7, 8, 9, 10, 11, 12, 13, 14, 15, 16, 17, 18, 19, 20, 21, 22, 23, 24] (z_fm rfl)
          have hD : va_D A (wP cI cJ cZ q (uZ pw x1 x2) (uZ co x1 x3) (uZ la x1 x4) vo cpar fr cdee use run nC tdue tlat twk nT edue elat ewk nE lenx_13 cntx_14 tin spx_9 pex_10 slp late srv hv av bd sh sc lt rule now stx_8 asl idlx_11 idnx_12 par div dee) := hD.sub [0, 25, 26, 27, 28, 1, 2, 3, 4, 5, 6, 7, 8, 9, 10, 11, 12, 13, 14, 15, 16, 17, 18, 19, 20, 21, 22, 23, 24] (by decide) rfl
          subst hQ
          exact zret_v (W1 := fun u9 : Int × Int × Int × (Int → Int) × Int × (Int → Int) × Int => wP cI cJ cZ q (uZ pw x1 x2) (uZ co x1 x3) (uZ la x1 x4) vo cpar fr cdee use run nC tdue tlat twk nT edue elat ewk nE (u9.2.2.2.2.2.1) (u9.2.2.2.2.2.2) tin (u9.2.1) (u9.2.2.1) slp late srv hv av bd sh sc lt rule now (u9.1) asl (u9.2.2.2.1) (u9.2.2.2.2.1) par div dee) (stx_8, spx_9, pex_10, idlx_11, idnx_12, lenx_13, cntx_14) hx hb hr hP hD hS hlocks dX7_setState_68 (by exact ⟨hsc9, hid9⟩)
        · skip
          exfalso; omega
def rmX7_setAwake_ok : Room := { frames := 6, cells := 0, slots := 0, locals := 90 }
set_option maxRecDepth 100000 in
set_option maxHeartbeats 4000000 in
theorem kX7_setAwake_ok (l : Launch) (dC : Nat → ClassId) (dI : Nat → Nat → Nat) (cI cJ cZ : ClassId) (q : Nat → Nat)  (pw : Int → Int) (co : Int → Int) (la : Int → Int) (vo : Int → Int) (cpar : Int → Int) (fr : Int → Int) (cdee : Int → Int) (use : Int → Int) (run : Int → Int) (nC : Int) (tdue : Int → Int) (tlat : Int → Int) (twk : Int → Int) (nT : Int) (edue : Int → Int) (elat : Int → Int) (ewk : Int → Int) (nE : Int) (len : Int → Int) (cnt : Int) (tin : Int → Int) (sp : Int) (pe : Int) (slp : Int) (late : Int) (srv : Int) (hv : Int → Int) (av : Int) (bd : Int) (sh : Int) (sc : Int → Int) (lt : Int → Int) (rule : Int) (now : Int) (st : Int) (asl : Int) (idl : Int → Int) (idn : Int) (par : Int → Int) (div : Int → Int) (dee : Int → Int) (x1 : Int) (hx1 : zR x1) (hst : 0 ≤ st ∧ st ≤ 3) (hpw : rgZ pw 4 1000) (hco : rgZ co 4 10000) (hla : rgZ la 4 100) (hnow : 0 ≤ now ∧ now ≤ 200000) (hasl : 0 ≤ asl ∧ asl ≤ now) (hid : idR len cnt idl idn) (hc0 : co 0 = 0) (hl0 : la 0 = 0) (hok : 0 ≤ x1 ∧ x1 ≤ 1000) : zMi l yX7_setAwake wsX7_setAwake rmX7_setAwake_ok (dC, dI) (zT cI cJ cZ) (wP cI cJ cZ q pw co la vo cpar fr cdee use run nC tdue tlat twk nT edue elat ewk nE len cnt tin sp pe slp late srv hv av bd sh sc lt rule now st asl idl idn par div dee) [.ref (q 0), .int (iI x1)] (fun (r9 : Int) (u9 : Int × Int × Int × (Int → Int) × Int × (Int → Int) × Int) => r9 = pw 0 ∧ (((u9.1), (u9.2.1), (u9.2.2.1), (u9.2.2.2.1), (u9.2.2.2.2.1)) = scF pw la st asl now sp pe idl idn ∧ idR (u9.2.2.2.2.2.1) (u9.2.2.2.2.2.2) (u9.2.2.2.1) (u9.2.2.2.2.1))) (fun u9 : Int × Int × Int × (Int → Int) × Int × (Int → Int) × Int => wP cI cJ cZ q (uZ pw 0 x1) co la vo cpar fr cdee use run nC tdue tlat twk nT edue elat ewk nE (u9.2.2.2.2.2.1) (u9.2.2.2.2.2.2) tin (u9.2.1) (u9.2.2.1) slp late srv hv av bd sh sc lt rule now (u9.1) asl (u9.2.2.2.1) (u9.2.2.2.2.1) par div dee) 0 0 := by
  refine zent_i (cc := cX7_setAwake) (maxL := 3) (ret := (some .int)) (by decide +kernel) rfl (Nat.le_of_ble_eq_true rfl) ?_
  intro p e s m below meth c A ls hE hP hK hA hD hS hl
  obtain ⟨hx, hb, hr, hml, hown, hts, hlocks, hmn⟩ := hE
  have hinX7 : ∀ w ∈ u_ws RX7 TX7 13, w ∈ wsX7_setAwake := by decide +kernel
  have hinX6 : ∀ w ∈ u_ws RX6 TX6 3, w ∈ wsX7_setAwake := by decide +kernel
  have hinX4 : ∀ w ∈ u_ws RX4 TX4 6, w ∈ wsX7_setAwake := by decide +kernel
  have hinX2 : ∀ w ∈ u_ws RX2 TX2 2, w ∈ wsX7_setAwake := by decide +kernel
  have hl : lv_has ls 3 [(0, .ref (q 0)), (1, .int (iI x1))] := hl
  refine z_gen (fun Q hQ => ?_)
  refine lv_iload_n hx hb dX7_setAwake_0 rfl (lv_at hl 1 rfl) ?_
  refine lv_iconst (v := iI 0) hx hb dX7_setAwake_1 rfl ?_
  refine lv_sipush (v := iI 1000) hx hb dX7_setAwake_2 (by decide) ?_
  refine zc_pi (va_runS (As := [.int (iI x1), .int (iI 0), .int (iI 1000)]) (rest := []) ⟨hx, hb, hml, hown, hts⟩ (kX7_isWithin l dC dI cI cJ cZ x1 0 1000 (by first | assumption | omega | exact b2i_01 _) (by first | assumption | omega | exact b2i_01 _) (by first | assumption | omega | exact b2i_01 _)) (va_cwS 3 hts gX7_setAwake_X7_isWithin rfl rfl rfl (by decide +kernel) ⟨Nat.le_of_ble_eq_true rfl, Nat.le_of_ble_eq_true rfl⟩) (zqS hK hP [] rfl) rfl rfl hl.1 rfl (lv_room (Nat.le_of_ble_eq_true rfl)) dX7_setAwake_5 ⟨Nat.le_of_ble_eq_true rfl, Nat.le_of_ble_eq_true rfl⟩) ?_
  refine zb_fne (tgt := 21) hx hb dX7_setAwake_8 (by decide) (fun c_1 => ?_) (fun c_1 => ?_)
  · skip
    refine lv_aload_n hx hb dX7_setAwake_21 rfl (lv_at hl 0 rfl) ?_
    refine zc_v (va_runV (As := []) (rest := []) ⟨hx, hb, hml, hown, hts⟩ (kX7_wakeForCall l dC dI cI cJ cZ q pw co la vo cpar fr cdee use run nC tdue tlat twk nT edue elat ewk nE len cnt tin sp pe slp late srv hv av bd sh sc lt rule now st asl idl idn par div dee (by first | assumption | omega | exact b2i_01 _) (by first | assumption | omega | exact b2i_01 _) (by first | assumption | omega | exact b2i_01 _) (by first | assumption | omega | exact b2i_01 _) (by first | assumption | omega | exact b2i_01 _) (by first | assumption | omega | exact b2i_01 _) (by first | assumption | omega | exact b2i_01 _) s.heap.size) (cwV 0 hts gX7_setAwake_X7_wakeForCall rfl rfl rfl (by decide +kernel) ⟨Nat.le_of_ble_eq_true rfl, Nat.le_of_ble_eq_true rfl⟩) (zpV hK hP hD [0, 1, 2, 3, 4, 5, 6, 7, 8, 9, 10, 11, 12, 13, 14, 15, 16, 17, 18, 19, 20, 21, 22, 23, 24, 25, 26, 27, 28] rfl rfl 0 rfl rfl) rfl rfl hl.1 rfl (lv_room (Nat.le_of_ble_eq_true rfl)) dX7_setAwake_22 ⟨Nat.le_of_ble_eq_true rfl, Nat.le_of_ble_eq_true rfl⟩) hP hD hS hA [0, 1, 2, 3, 4, 5, 6, 7, 8, 9, 10, 11, 12, 13, 14, 15, 16, 17, 18, 19, 20, 21, 22, 23, 24, 25, 26, 27, 28] [] rfl rfl rfl (by decide) (fun u_3 H locs r_2 hP hD hS => ?_)
    obtain ⟨stx_5, spx_6, pex_7, idlx_8, idnx_9, lenx_10, cntx_11⟩ := u_3
    have r_2 : (stx_5, spx_6, pex_7, idlx_8, idnx_9) = scF pw la st asl now sp pe idl idn ∧ idR lenx_10 cntx_11 idlx_8 idnx_9 := r_2
    have hP : va_P (dC, dI) vwCl (wP cI cJ cZ q pw co la vo cpar fr cdee use run nC tdue tlat twk nT edue elat ewk nE lenx_10 cntx_11 tin spx_6 pex_7 slp late srv hv av bd sh sc lt rule now stx_5 asl idlx_8 idnx_9 par div dee) H := hP
    have hD : va_D A (wP cI cJ cZ q pw co la vo cpar fr cdee use run nC tdue tlat twk nT edue elat ewk nE lenx_10 cntx_11 tin spx_6 pex_7 slp late srv hv av bd sh sc lt rule now stx_5 asl idlx_8 idnx_9 par div dee) := hD
    obtain ⟨hsc9, hid9⟩ := r_2
    refine lv_aload_n hx hb dX7_setAwake_25 rfl (lv_at hl 0 rfl) ?_
    refine va_get (D := (dC, dI)) (ci := 7) (v := .ref (q 1)) (C := RX7) (T := TX7) (N := 13) hx hb hts hinX7 hown hK.1 hP 0 rfl rfl 0 (by decide) (hts _ (List.mem_of_getElem? (i := 3) rfl)) (fun _ h9 => h9) rfl dX7_setAwake_26 ?_
    refine lv_iconst (v := iI 0) hx hb dX7_setAwake_29 rfl ?_
    refine zc_pi (va_runV (As := [.int (iI 0)]) (rest := []) ⟨hx, hb, hml, hown, hts⟩ (kX6_powerOf l dC dI cI cJ cZ (q 1) (q 2) (q 3) (q 4) pw co la 0 (by first | assumption | omega | exact b2i_01 _)) (cwV 1 hts gX7_setAwake_X6_powerOf rfl rfl rfl (by decide +kernel) ⟨Nat.le_of_ble_eq_true rfl, Nat.le_of_ble_eq_true rfl⟩) (zqV hK hP [1, 2, 3, 4] rfl 1 rfl rfl) rfl rfl hl.1 rfl (lv_room (Nat.le_of_ble_eq_true rfl)) dX7_setAwake_30 ⟨Nat.le_of_ble_eq_true rfl, Nat.le_of_ble_eq_true rfl⟩) ?_
    refine lv_istore_n (lv' := [(2, .int (iI (pw 0))), (0, .ref (q 0)), (1, .int (iI x1))]) hx hb dX7_setAwake_33 rfl hl (by decide) rfl (fun ls hl => ?_)
    refine lv_aload_n hx hb dX7_setAwake_34 rfl (lv_at hl 1 rfl) ?_
    refine va_get (D := (dC, dI)) (ci := 7) (v := .ref (q 1)) (C := RX7) (T := TX7) (N := 13) hx hb hts hinX7 hown hK.1 hP 0 rfl rfl 0 (by decide) (hts _ (List.mem_of_getElem? (i := 3) rfl)) (fun _ h9 => h9) rfl dX7_setAwake_35 ?_
    refine lv_iconst (v := iI 0) hx hb dX7_setAwake_38 rfl ?_
    refine lv_iload_n hx hb dX7_setAwake_39 rfl (lv_at hl 2 rfl) ?_
    refine lv_iconst (v := iI 0) hx hb dX7_setAwake_40 rfl ?_
    refine lv_iconst (v := iI 0) hx hb dX7_setAwake_41 rfl ?_
    refine zc_v (va_runV (As := [.int (iI 0), .int (iI x1), .int (iI 0), .int (iI 0)]) (rest := []) ⟨hx, hb, hml, hown, hts⟩ (kX6_change l dC dI cI cJ cZ (q 1) (q 2) (q 3) (q 4) pw co la 0 x1 0 0 (by first | assumption | omega | exact b2i_01 _) H.size) (cwV 4 hts gX7_setAwake_X6_change rfl rfl rfl (by decide +kernel) ⟨Nat.le_of_ble_eq_true rfl, Nat.le_of_ble_eq_true rfl⟩) (zpV hK hP hD [1, 2, 3, 4] rfl rfl 1 rfl rfl) rfl rfl hl.1 rfl (lv_room (Nat.le_of_ble_eq_true rfl)) dX7_setAwake_42 ⟨Nat.le_of_ble_eq_true rfl, Nat.le_of_ble_eq_true rfl⟩) hP hD hS hA [1, 2, 3, 4] [0, 5, 6, 7, 8, 9, 10, 11, 12, 13, 14, 15, 16, 17, 18, 19, 20, 21, 22, 23, 24, 25, 26, 27, 28] rfl rfl rfl (by decide) (fun u_13 H locs r_12 hP hD hS => ?_)
    have hP : va_P (dC, dI) vwCl (wP cI cJ cZ q (uZ pw 0 x1) (uZ co 0 0) (uZ la 0 0) vo cpar fr cdee use run nC tdue tlat twk nT edue elat ewk nE lenx_10 cntx_11 tin spx_6 pex_7 slp late srv hv av bd sh sc lt rule now stx_5 asl idlx_8 idnx_9 par div dee) H := hP.sub [0, 25, 26, 27, 28, 1, 2, 3, 4, 5, 6, 7, 8, 9, 10, 11, 12, 13, 14, 15, 16, 17, 18, 19, 20, 21, 22, 23, 24] (z_fm rfl)
    have hD : va_D A (wP cI cJ cZ q (uZ pw 0 x1) (uZ co 0 0) (uZ la 0 0) vo cpar fr cdee use run nC tdue tlat twk nT edue elat ewk nE lenx_10 cntx_11 tin spx_6 pex_7 slp late srv hv av bd sh sc lt rule now stx_5 asl idlx_8 idnx_9 par div dee) := hD.sub [0, 25, 26, 27, 28, 1, 2, 3, 4, 5, 6, 7, 8, 9, 10, 11, 12, 13, 14, 15, 16, 17, 18, 19, 20, 21, 22, 23, 24] (by decide) rfl
    refine lv_iload_n hx hb dX7_setAwake_45 rfl (lv_at hl 0 rfl) ?_
    subst hQ
    have w_15 : co = (uZ co 0 0) := by (have h8 := uZ_id co 0; rw [hc0] at h8; exact h8.symm)
    have w_16 : la = (uZ la 0 0) := by (have h8 := uZ_id la 0; rw [hl0] at h8; exact h8.symm)
    have hP : va_P (dC, dI) vwCl (wP cI cJ cZ q (uZ pw 0 x1) co la vo cpar fr cdee use run nC tdue tlat twk nT edue elat ewk nE lenx_10 cntx_11 tin spx_6 pex_7 slp late srv hv av bd sh sc lt rule now stx_5 asl idlx_8 idnx_9 par div dee) H := by rw [w_15, w_16]; exact hP
    have hD : va_D A (wP cI cJ cZ q (uZ pw 0 x1) co la vo cpar fr cdee use run nC tdue tlat twk nT edue elat ewk nE lenx_10 cntx_11 tin spx_6 pex_7 slp late srv hv av bd sh sc lt rule now stx_5 asl idlx_8 idnx_9 par div dee) := by rw [w_15, w_16]; exact hD
    exact zret_i (W1 := fun u9 : Int × Int × Int × (Int → Int) × Int × (Int → Int) × Int => wP cI cJ cZ q (uZ pw 0 x1) co la vo cpar fr cdee use run nC tdue tlat twk nT edue elat ewk nE (u9.2.2.2.2.2.1) (u9.2.2.2.2.2.2) tin (u9.2.1) (u9.2.2.1) slp late srv hv av bd sh sc lt rule now (u9.1) asl (u9.2.2.2.1) (u9.2.2.2.2.1) par div dee) (stx_5, spx_6, pex_7, idlx_8, idnx_9, lenx_10, cntx_11) hx hb hr hP hD hS hlocks dX7_setAwake_46 (by exact ⟨rfl, hsc9, hid9⟩)
  · skip
    exfalso; omega
def rmX7_vote_ok : Room := { frames := 6, cells := 0, slots := 0, locals := 90 }
set_option maxRecDepth 100000 in
set_option maxHeartbeats 4000000 in
theorem kX7_vote_ok (l : Launch) (dC : Nat → ClassId) (dI : Nat → Nat → Nat) (cI cJ cZ : ClassId) (q : Nat → Nat)  (pw : Int → Int) (co : Int → Int) (la : Int → Int) (vo : Int → Int) (cpar : Int → Int) (fr : Int → Int) (cdee : Int → Int) (use : Int → Int) (run : Int → Int) (nC : Int) (tdue : Int → Int) (tlat : Int → Int) (twk : Int → Int) (nT : Int) (edue : Int → Int) (elat : Int → Int) (ewk : Int → Int) (nE : Int) (len : Int → Int) (cnt : Int) (tin : Int → Int) (sp : Int) (pe : Int) (slp : Int) (late : Int) (srv : Int) (hv : Int → Int) (av : Int) (bd : Int) (sh : Int) (sc : Int → Int) (lt : Int → Int) (rule : Int) (now : Int) (st : Int) (asl : Int) (idl : Int → Int) (idn : Int) (par : Int → Int) (div : Int → Int) (dee : Int → Int) (x1 x2 : Int) (hx1 : zR x1) (hx2 : zR x2) (hst : 0 ≤ st ∧ st ≤ 3) (hpw : rgZ pw 4 1000) (hco : rgZ co 4 10000) (hla : rgZ la 4 100) (hnow : 0 ≤ now ∧ now ≤ 200000) (hasl : 0 ≤ asl ∧ asl ≤ now) (hid : idR len cnt idl idn) (hok : (0 ≤ x1 ∧ x1 ≤ 5) ∧ (0 ≤ x2 ∧ x2 ≤ 3)) : zMi l yX7_vote wsX7_vote rmX7_vote_ok (dC, dI) (zT cI cJ cZ) (wP cI cJ cZ q pw co la vo cpar fr cdee use run nC tdue tlat twk nT edue elat ewk nE len cnt tin sp pe slp late srv hv av bd sh sc lt rule now st asl idl idn par div dee) [.ref (q 0), .int (iI x1), .int (iI x2)] (fun (r9 : Int) (u9 : Int × Int × Int × (Int → Int) × Int × (Int → Int) × Int) => r9 = vo x1 ∧ (((u9.1), (u9.2.1), (u9.2.2.1), (u9.2.2.2.1), (u9.2.2.2.2.1)) = scF pw la st asl now sp pe idl idn ∧ idR (u9.2.2.2.2.2.1) (u9.2.2.2.2.2.2) (u9.2.2.2.1) (u9.2.2.2.2.1))) (fun u9 : Int × Int × Int × (Int → Int) × Int × (Int → Int) × Int => wP cI cJ cZ q pw co la (uZ vo x1 x2) cpar fr cdee use run nC tdue tlat twk nT edue elat ewk nE (u9.2.2.2.2.2.1) (u9.2.2.2.2.2.2) tin (u9.2.1) (u9.2.2.1) slp late srv hv av bd sh sc lt rule now (u9.1) asl (u9.2.2.2.1) (u9.2.2.2.2.1) par div dee) 0 0 := by
  refine zent_i (cc := cX7_vote) (maxL := 3) (ret := (some .int)) (by decide +kernel) rfl (Nat.le_of_ble_eq_true rfl) ?_
  intro p e s m below meth c A ls hE hP hK hA hD hS hl
  obtain ⟨hx, hb, hr, hml, hown, hts, hlocks, hmn⟩ := hE
  have hinX7 : ∀ w ∈ u_ws RX7 TX7 13, w ∈ wsX7_vote := by decide +kernel
  have hinX6 : ∀ w ∈ u_ws RX6 TX6 3, w ∈ wsX7_vote := by decide +kernel
  have hinX4 : ∀ w ∈ u_ws RX4 TX4 6, w ∈ wsX7_vote := by decide +kernel
  have hinX2 : ∀ w ∈ u_ws RX2 TX2 2, w ∈ wsX7_vote := by decide +kernel
  have hl : lv_has ls 3 [(0, .ref (q 0)), (1, .int (iI x1)), (2, .int (iI x2))] := hl
  refine z_gen (fun Q hQ => ?_)
  refine lv_iload_n hx hb dX7_vote_0 rfl (lv_at hl 1 rfl) ?_
  refine lv_iconst (v := iI 0) hx hb dX7_vote_1 rfl ?_
  refine lv_iconst (v := iI 5) hx hb dX7_vote_2 rfl ?_
  refine zc_pi (va_runS (As := [.int (iI x1), .int (iI 0), .int (iI 5)]) (rest := []) ⟨hx, hb, hml, hown, hts⟩ (kX7_isWithin l dC dI cI cJ cZ x1 0 5 (by first | assumption | omega | exact b2i_01 _) (by first | assumption | omega | exact b2i_01 _) (by first | assumption | omega | exact b2i_01 _)) (va_cwS 3 hts gX7_vote_X7_isWithin rfl rfl rfl (by decide +kernel) ⟨Nat.le_of_ble_eq_true rfl, Nat.le_of_ble_eq_true rfl⟩) (zqS hK hP [] rfl) rfl rfl hl.1 rfl (lv_room (Nat.le_of_ble_eq_true rfl)) dX7_vote_3 ⟨Nat.le_of_ble_eq_true rfl, Nat.le_of_ble_eq_true rfl⟩) ?_
  refine zb_feq (tgt := 18) hx hb dX7_vote_6 (by decide) (fun c_1 => ?_) (fun c_1 => ?_)
  · skip
    exfalso; omega
  · skip
    refine lv_iload_n hx hb dX7_vote_9 rfl (lv_at hl 2 rfl) ?_
    refine lv_iconst (v := iI 0) hx hb dX7_vote_10 rfl ?_
    refine lv_iconst (v := iI 3) hx hb dX7_vote_11 rfl ?_
    refine zc_pi (va_runS (As := [.int (iI x2), .int (iI 0), .int (iI 3)]) (rest := []) ⟨hx, hb, hml, hown, hts⟩ (kX7_isWithin l dC dI cI cJ cZ x2 0 3 (by first | assumption | omega | exact b2i_01 _) (by first | assumption | omega | exact b2i_01 _) (by first | assumption | omega | exact b2i_01 _)) (va_cwS 3 hts gX7_vote_X7_isWithin rfl rfl rfl (by decide +kernel) ⟨Nat.le_of_ble_eq_true rfl, Nat.le_of_ble_eq_true rfl⟩) (zqS hK hP [] rfl) rfl rfl hl.1 rfl (lv_room (Nat.le_of_ble_eq_true rfl)) dX7_vote_12 ⟨Nat.le_of_ble_eq_true rfl, Nat.le_of_ble_eq_true rfl⟩) ?_
    refine zb_fne (tgt := 28) hx hb dX7_vote_15 (by decide) (fun c_2 => ?_) (fun c_2 => ?_)
    · skip
      refine lv_aload_n hx hb dX7_vote_28 rfl (lv_at hl 0 rfl) ?_
      refine zc_v (va_runV (As := []) (rest := []) ⟨hx, hb, hml, hown, hts⟩ (kX7_wakeForCall l dC dI cI cJ cZ q pw co la vo cpar fr cdee use run nC tdue tlat twk nT edue elat ewk nE len cnt tin sp pe slp late srv hv av bd sh sc lt rule now st asl idl idn par div dee (by first | assumption | omega | exact b2i_01 _) (by first | assumption | omega | exact b2i_01 _) (by first | assumption | omega | exact b2i_01 _) (by first | assumption | omega | exact b2i_01 _) (by first | assumption | omega | exact b2i_01 _) (by first | assumption | omega | exact b2i_01 _) (by first | assumption | omega | exact b2i_01 _) s.heap.size) (cwV 0 hts gX7_vote_X7_wakeForCall rfl rfl rfl (by decide +kernel) ⟨Nat.le_of_ble_eq_true rfl, Nat.le_of_ble_eq_true rfl⟩) (zpV hK hP hD [0, 1, 2, 3, 4, 5, 6, 7, 8, 9, 10, 11, 12, 13, 14, 15, 16, 17, 18, 19, 20, 21, 22, 23, 24, 25, 26, 27, 28] rfl rfl 0 rfl rfl) rfl rfl hl.1 rfl (lv_room (Nat.le_of_ble_eq_true rfl)) dX7_vote_29 ⟨Nat.le_of_ble_eq_true rfl, Nat.le_of_ble_eq_true rfl⟩) hP hD hS hA [0, 1, 2, 3, 4, 5, 6, 7, 8, 9, 10, 11, 12, 13, 14, 15, 16, 17, 18, 19, 20, 21, 22, 23, 24, 25, 26, 27, 28] [] rfl rfl rfl (by decide) (fun u_4 H locs r_3 hP hD hS => ?_)
      obtain ⟨stx_6, spx_7, pex_8, idlx_9, idnx_10, lenx_11, cntx_12⟩ := u_4
      have r_3 : (stx_6, spx_7, pex_8, idlx_9, idnx_10) = scF pw la st asl now sp pe idl idn ∧ idR lenx_11 cntx_12 idlx_9 idnx_10 := r_3
      have hP : va_P (dC, dI) vwCl (wP cI cJ cZ q pw co la vo cpar fr cdee use run nC tdue tlat twk nT edue elat ewk nE lenx_11 cntx_12 tin spx_7 pex_8 slp late srv hv av bd sh sc lt rule now stx_6 asl idlx_9 idnx_10 par div dee) H := hP
      have hD : va_D A (wP cI cJ cZ q pw co la vo cpar fr cdee use run nC tdue tlat twk nT edue elat ewk nE lenx_11 cntx_12 tin spx_7 pex_8 slp late srv hv av bd sh sc lt rule now stx_6 asl idlx_9 idnx_10 par div dee) := hD
      obtain ⟨hsc9, hid9⟩ := r_3
      refine lv_aload_n hx hb dX7_vote_32 rfl (lv_at hl 0 rfl) ?_
      refine va_get (D := (dC, dI)) (ci := 7) (v := .ref (q 5)) (C := RX7) (T := TX7) (N := 13) hx hb hts hinX7 hown hK.1 hP 0 rfl rfl 1 (by decide) (hts _ (List.mem_of_getElem? (i := 3) rfl)) (fun _ h9 => h9) rfl dX7_vote_33 ?_
      refine lv_iload_n hx hb dX7_vote_36 rfl (lv_at hl 1 rfl) ?_
      refine lv_iload_n hx hb dX7_vote_37 rfl (lv_at hl 2 rfl) ?_
      refine zc_i (va_runS (As := [.ref (q 5), .int (iI x1), .int (iI x2)]) (rest := []) ⟨hx, hb, hml, hown, hts⟩ (kX7_exchange l dC dI cI cJ cZ (q 5) 6 vo x1 x2 (by first | assumption | omega | exact b2i_01 _) (by first | assumption | omega | exact b2i_01 _) H.size) (va_cwS 3 hts gX7_vote_X7_exchange rfl rfl rfl (by decide +kernel) ⟨Nat.le_of_ble_eq_true rfl, Nat.le_of_ble_eq_true rfl⟩) (zpS hK hP hD [5] rfl rfl) rfl rfl hl.1 rfl (lv_room (Nat.le_of_ble_eq_true rfl)) dX7_vote_38 ⟨Nat.le_of_ble_eq_true rfl, Nat.le_of_ble_eq_true rfl⟩) hP hD hS hA [5] [0, 1, 2, 3, 4, 6, 7, 8, 9, 10, 11, 12, 13, 14, 15, 16, 17, 18, 19, 20, 21, 22, 23, 24, 25, 26, 27, 28] rfl rfl rfl (by decide) (fun v_15 u_14 H locs r_13 hP hD hS => ?_)
      refine ze_i r_13 ?_
      have hP : va_P (dC, dI) vwCl (wP cI cJ cZ q pw co la (exZ vo 6 x1 x2) cpar fr cdee use run nC tdue tlat twk nT edue elat ewk nE lenx_11 cntx_12 tin spx_7 pex_8 slp late srv hv av bd sh sc lt rule now stx_6 asl idlx_9 idnx_10 par div dee) H := hP.sub [0, 1, 2, 3, 4, 28, 5, 6, 7, 8, 9, 10, 11, 12, 13, 14, 15, 16, 17, 18, 19, 20, 21, 22, 23, 24, 25, 26, 27] (z_fm rfl)
      have hD : va_D A (wP cI cJ cZ q pw co la (exZ vo 6 x1 x2) cpar fr cdee use run nC tdue tlat twk nT edue elat ewk nE lenx_11 cntx_12 tin spx_7 pex_8 slp late srv hv av bd sh sc lt rule now stx_6 asl idlx_9 idnx_10 par div dee) := hD.sub [0, 1, 2, 3, 4, 28, 5, 6, 7, 8, 9, 10, 11, 12, 13, 14, 15, 16, 17, 18, 19, 20, 21, 22, 23, 24, 25, 26, 27] (by decide) rfl
      subst hQ
      have w_16 : (uZ vo x1 x2) = (exZ vo 6 x1 x2) := by exact (exZ_i (by omega)).symm
      have hP : va_P (dC, dI) vwCl (wP cI cJ cZ q pw co la (uZ vo x1 x2) cpar fr cdee use run nC tdue tlat twk nT edue elat ewk nE lenx_11 cntx_12 tin spx_7 pex_8 slp late srv hv av bd sh sc lt rule now stx_6 asl idlx_9 idnx_10 par div dee) H := by rw [w_16]; exact hP
      have hD : va_D A (wP cI cJ cZ q pw co la (uZ vo x1 x2) cpar fr cdee use run nC tdue tlat twk nT edue elat ewk nE lenx_11 cntx_12 tin spx_7 pex_8 slp late srv hv av bd sh sc lt rule now stx_6 asl idlx_9 idnx_10 par div dee) := by rw [w_16]; exact hD
      exact zret_i (W1 := fun u9 : Int × Int × Int × (Int → Int) × Int × (Int → Int) × Int => wP cI cJ cZ q pw co la (uZ vo x1 x2) cpar fr cdee use run nC tdue tlat twk nT edue elat ewk nE (u9.2.2.2.2.2.1) (u9.2.2.2.2.2.2) tin (u9.2.1) (u9.2.2.1) slp late srv hv av bd sh sc lt rule now (u9.1) asl (u9.2.2.2.1) (u9.2.2.2.2.1) par div dee) (stx_6, spx_7, pex_8, idlx_9, idnx_10, lenx_11, cntx_12) hx hb hr hP hD hS hlocks dX7_vote_41 (by exact ⟨rdZ_i (by omega), hsc9, hid9⟩)
    · skip
      exfalso; omega
def rmX7_use_ok : Room := { frames := 6, cells := 0, slots := 0, locals := 90 }
set_option maxRecDepth 100000 in
set_option maxHeartbeats 4000000 in
theorem kX7_use_ok (l : Launch) (dC : Nat → ClassId) (dI : Nat → Nat → Nat) (cI cJ cZ : ClassId) (q : Nat → Nat)  (pw : Int → Int) (co : Int → Int) (la : Int → Int) (vo : Int → Int) (cpar : Int → Int) (fr : Int → Int) (cdee : Int → Int) (use : Int → Int) (run : Int → Int) (nC : Int) (tdue : Int → Int) (tlat : Int → Int) (twk : Int → Int) (nT : Int) (edue : Int → Int) (elat : Int → Int) (ewk : Int → Int) (nE : Int) (len : Int → Int) (cnt : Int) (tin : Int → Int) (sp : Int) (pe : Int) (slp : Int) (late : Int) (srv : Int) (hv : Int → Int) (av : Int) (bd : Int) (sh : Int) (sc : Int → Int) (lt : Int → Int) (rule : Int) (now : Int) (st : Int) (asl : Int) (idl : Int → Int) (idn : Int) (par : Int → Int) (div : Int → Int) (dee : Int → Int) (x1 : Int) (hx1 : zR x1) (hst : 0 ≤ st ∧ st ≤ 3) (hpw : rgZ pw 4 1000) (hco : rgZ co 4 10000) (hla : rgZ la 4 100) (hnow : 0 ≤ now ∧ now ≤ 200000) (hasl : 0 ≤ asl ∧ asl ≤ now) (hid : idR len cnt idl idn) (hnC : 1 ≤ nC ∧ nC ≤ 8) (huse : rgZ use 8 9) (hok : (0 ≤ x1 ∧ x1 < nC) ∧ use x1 < 9) : zMi l yX7_use wsX7_use rmX7_use_ok (dC, dI) (zT cI cJ cZ) (wP cI cJ cZ q pw co la vo cpar fr cdee use run nC tdue tlat twk nT edue elat ewk nE len cnt tin sp pe slp late srv hv av bd sh sc lt rule now st asl idl idn par div dee) [.ref (q 0), .int (iI x1)] (fun (r9 : Int) (u9 : Int × Int × Int × (Int → Int) × Int × (Int → Int) × Int) => r9 = use x1 + 1 ∧ (((u9.1), (u9.2.1), (u9.2.2.1), (u9.2.2.2.1), (u9.2.2.2.2.1)) = scF pw la st asl now sp pe idl idn ∧ idR (u9.2.2.2.2.2.1) (u9.2.2.2.2.2.2) (u9.2.2.2.1) (u9.2.2.2.2.1))) (fun u9 : Int × Int × Int × (Int → Int) × Int × (Int → Int) × Int => wP cI cJ cZ q pw co la vo cpar fr cdee (uZ use x1 (use x1 + 1)) run nC tdue tlat twk nT edue elat ewk nE (u9.2.2.2.2.2.1) (u9.2.2.2.2.2.2) tin (u9.2.1) (u9.2.2.1) slp late srv hv av bd sh sc lt rule now (u9.1) asl (u9.2.2.2.1) (u9.2.2.2.2.1) par div dee) 0 0 := by
  refine zent_i (cc := cX7_use) (maxL := 2) (ret := (some .int)) (by decide +kernel) rfl (Nat.le_of_ble_eq_true rfl) ?_
  intro p e s m below meth c A ls hE hP hK hA hD hS hl
  obtain ⟨hx, hb, hr, hml, hown, hts, hlocks, hmn⟩ := hE
  have hinX7 : ∀ w ∈ u_ws RX7 TX7 13, w ∈ wsX7_use := by decide +kernel
  have hinX1 : ∀ w ∈ u_ws RX1 TX1 6, w ∈ wsX7_use := by decide +kernel
  have hinX6 : ∀ w ∈ u_ws RX6 TX6 3, w ∈ wsX7_use := by decide +kernel
  have hinX4 : ∀ w ∈ u_ws RX4 TX4 6, w ∈ wsX7_use := by decide +kernel
  have hinX2 : ∀ w ∈ u_ws RX2 TX2 2, w ∈ wsX7_use := by decide +kernel
  have hl : lv_has ls 2 [(0, .ref (q 0)), (1, .int (iI x1))] := hl
  refine z_gen (fun Q hQ => ?_)
  refine lv_aload_n hx hb dX7_use_0 rfl (lv_at hl 0 rfl) ?_
  refine va_get (D := (dC, dI)) (ci := 7) (v := .ref (q 6)) (C := RX7) (T := TX7) (N := 13) hx hb hts hinX7 hown hK.1 hP 0 rfl rfl 2 (by decide) (hts _ (List.mem_of_getElem? (i := 5) rfl)) (fun _ h9 => h9) rfl dX7_use_1 ?_
  refine lv_iload_n hx hb dX7_use_4 rfl (lv_at hl 1 rfl) ?_
  refine zc_pi (va_runV (As := [.int (iI x1)]) (rest := []) ⟨hx, hb, hml, hown, hts⟩ (kX1_has l dC dI cI cJ cZ (q 6) (q 7) (q 8) (q 9) (q 10) (q 11) cpar fr cdee use run nC x1 (by first | assumption | omega | exact b2i_01 _) (by first | assumption | omega | exact b2i_01 _)) (cwV 1 hts gX7_use_X1_has rfl rfl rfl (by decide +kernel) ⟨Nat.le_of_ble_eq_true rfl, Nat.le_of_ble_eq_true rfl⟩) (zqV hK hP [6, 7, 8, 9, 10, 11] rfl 6 rfl rfl) rfl rfl hl.1 rfl (lv_room (Nat.le_of_ble_eq_true rfl)) dX7_use_5 ⟨Nat.le_of_ble_eq_true rfl, Nat.le_of_ble_eq_true rfl⟩) ?_
  refine zb_fne (tgt := 21) hx hb dX7_use_8 (by decide) (fun c_1 => ?_) (fun c_1 => ?_)
  · skip
    refine lv_aload_n hx hb dX7_use_21 rfl (lv_at hl 0 rfl) ?_
    refine va_get (D := (dC, dI)) (ci := 7) (v := .ref (q 6)) (C := RX7) (T := TX7) (N := 13) hx hb hts hinX7 hown hK.1 hP 0 rfl rfl 2 (by decide) (hts _ (List.mem_of_getElem? (i := 5) rfl)) (fun _ h9 => h9) rfl dX7_use_22 ?_
    refine lv_iload_n hx hb dX7_use_25 rfl (lv_at hl 1 rfl) ?_
    refine zc_pi (va_runV (As := [.int (iI x1)]) (rest := []) ⟨hx, hb, hml, hown, hts⟩ (kX1_usesOf l dC dI cI cJ cZ (q 6) (q 7) (q 8) (q 9) (q 10) (q 11) cpar fr cdee use run nC x1 (by first | assumption | omega | exact b2i_01 _)) (cwV 1 hts gX7_use_X1_usesOf rfl rfl rfl (by decide +kernel) ⟨Nat.le_of_ble_eq_true rfl, Nat.le_of_ble_eq_true rfl⟩) (zqV hK hP [6, 7, 8, 9, 10, 11] rfl 6 rfl rfl) rfl rfl hl.1 rfl (lv_room (Nat.le_of_ble_eq_true rfl)) dX7_use_26 ⟨Nat.le_of_ble_eq_true rfl, Nat.le_of_ble_eq_true rfl⟩) ?_
    have e_2 := huse x1 (by omega) (by omega)
    refine lv_bipush (v := iI 9) hx hb dX7_use_29 (by decide) ?_
    refine zi_clt (tgt := 44) hx hb (by omega) (by decide) dX7_use_31 (by decide) (fun c_3 => ?_) (fun c_3 => ?_)
    · skip
      refine lv_aload_n hx hb dX7_use_44 rfl (lv_at hl 0 rfl) ?_
      refine zc_v (va_runV (As := []) (rest := []) ⟨hx, hb, hml, hown, hts⟩ (kX7_wakeForCall l dC dI cI cJ cZ q pw co la vo cpar fr cdee use run nC tdue tlat twk nT edue elat ewk nE len cnt tin sp pe slp late srv hv av bd sh sc lt rule now st asl idl idn par div dee (by first | assumption | omega | exact b2i_01 _) (by first | assumption | omega | exact b2i_01 _) (by first | assumption | omega | exact b2i_01 _) (by first | assumption | omega | exact b2i_01 _) (by first | assumption | omega | exact b2i_01 _) (by first | assumption | omega | exact b2i_01 _) (by first | assumption | omega | exact b2i_01 _) s.heap.size) (cwV 0 hts gX7_use_X7_wakeForCall rfl rfl rfl (by decide +kernel) ⟨Nat.le_of_ble_eq_true rfl, Nat.le_of_ble_eq_true rfl⟩) (zpV hK hP hD [0, 1, 2, 3, 4, 5, 6, 7, 8, 9, 10, 11, 12, 13, 14, 15, 16, 17, 18, 19, 20, 21, 22, 23, 24, 25, 26, 27, 28] rfl rfl 0 rfl rfl) rfl rfl hl.1 rfl (lv_room (Nat.le_of_ble_eq_true rfl)) dX7_use_45 ⟨Nat.le_of_ble_eq_true rfl, Nat.le_of_ble_eq_true rfl⟩) hP hD hS hA [0, 1, 2, 3, 4, 5, 6, 7, 8, 9, 10, 11, 12, 13, 14, 15, 16, 17, 18, 19, 20, 21, 22, 23, 24, 25, 26, 27, 28] [] rfl rfl rfl (by decide) (fun u_5 H locs r_4 hP hD hS => ?_)
      obtain ⟨stx_7, spx_8, pex_9, idlx_10, idnx_11, lenx_12, cntx_13⟩ := u_5
      have r_4 : (stx_7, spx_8, pex_9, idlx_10, idnx_11) = scF pw la st asl now sp pe idl idn ∧ idR lenx_12 cntx_13 idlx_10 idnx_11 := r_4
      have hP : va_P (dC, dI) vwCl (wP cI cJ cZ q pw co la vo cpar fr cdee use run nC tdue tlat twk nT edue elat ewk nE lenx_12 cntx_13 tin spx_8 pex_9 slp late srv hv av bd sh sc lt rule now stx_7 asl idlx_10 idnx_11 par div dee) H := hP
      have hD : va_D A (wP cI cJ cZ q pw co la vo cpar fr cdee use run nC tdue tlat twk nT edue elat ewk nE lenx_12 cntx_13 tin spx_8 pex_9 slp late srv hv av bd sh sc lt rule now stx_7 asl idlx_10 idnx_11 par div dee) := hD
      obtain ⟨hsc9, hid9⟩ := r_4
      refine lv_aload_n hx hb dX7_use_48 rfl (lv_at hl 0 rfl) ?_
      refine va_get (D := (dC, dI)) (ci := 7) (v := .ref (q 6)) (C := RX7) (T := TX7) (N := 13) hx hb hts hinX7 hown hK.1 hP 0 rfl rfl 2 (by decide) (hts _ (List.mem_of_getElem? (i := 5) rfl)) (fun _ h9 => h9) rfl dX7_use_49 ?_
      refine lv_iload_n hx hb dX7_use_52 rfl (lv_at hl 1 rfl) ?_
      refine lv_iconst (v := iI 1) hx hb dX7_use_53 rfl ?_
      refine zc_i (va_runV (As := [.int (iI x1), .int (iI 1)]) (rest := []) ⟨hx, hb, hml, hown, hts⟩ (kX1_changeUses l dC dI cI cJ cZ (q 6) (q 7) (q 8) (q 9) (q 10) (q 11) cpar fr cdee use run nC x1 1 (by first | assumption | omega | exact b2i_01 _) H.size) (cwV 2 hts gX7_use_X1_changeUses rfl rfl rfl (by decide +kernel) ⟨Nat.le_of_ble_eq_true rfl, Nat.le_of_ble_eq_true rfl⟩) (zpV hK hP hD [6, 7, 8, 9, 10, 11] rfl rfl 6 rfl rfl) rfl rfl hl.1 rfl (lv_room (Nat.le_of_ble_eq_true rfl)) dX7_use_54 ⟨Nat.le_of_ble_eq_true rfl, Nat.le_of_ble_eq_true rfl⟩) hP hD hS hA [6, 7, 8, 9, 10, 11] [0, 1, 2, 3, 4, 5, 12, 13, 14, 15, 16, 17, 18, 19, 20, 21, 22, 23, 24, 25, 26, 27, 28] rfl rfl rfl (by decide) (fun v_16 u_15 H locs r_14 hP hD hS => ?_)
      refine ze_i r_14 ?_
      have hP : va_P (dC, dI) vwCl (wP cI cJ cZ q pw co la vo cpar fr cdee (uZ use x1 (use x1 + 1)) run nC tdue tlat twk nT edue elat ewk nE lenx_12 cntx_13 tin spx_8 pex_9 slp late srv hv av bd sh sc lt rule now stx_7 asl idlx_10 idnx_11 par div dee) H := hP.sub [0, 1, 2, 3, 4, 5, 23, 24, 25, 26, 27, 28, 6, 7, 8, 9, 10, 11, 12, 13, 14, 15, 16, 17, 18, 19, 20, 21, 22] (z_fm rfl)
      have hD : va_D A (wP cI cJ cZ q pw co la vo cpar fr cdee (uZ use x1 (use x1 + 1)) run nC tdue tlat twk nT edue elat ewk nE lenx_12 cntx_13 tin spx_8 pex_9 slp late srv hv av bd sh sc lt rule now stx_7 asl idlx_10 idnx_11 par div dee) := hD.sub [0, 1, 2, 3, 4, 5, 23, 24, 25, 26, 27, 28, 6, 7, 8, 9, 10, 11, 12, 13, 14, 15, 16, 17, 18, 19, 20, 21, 22] (by decide) rfl
      subst hQ
      exact zret_i (W1 := fun u9 : Int × Int × Int × (Int → Int) × Int × (Int → Int) × Int => wP cI cJ cZ q pw co la vo cpar fr cdee (uZ use x1 (use x1 + 1)) run nC tdue tlat twk nT edue elat ewk nE (u9.2.2.2.2.2.1) (u9.2.2.2.2.2.2) tin (u9.2.1) (u9.2.2.1) slp late srv hv av bd sh sc lt rule now (u9.1) asl (u9.2.2.2.1) (u9.2.2.2.2.1) par div dee) (stx_7, spx_8, pex_9, idlx_10, idnx_11, lenx_12, cntx_13) hx hb hr hP hD hS hlocks dX7_use_57 (by exact ⟨rfl, hsc9, hid9⟩)
    · skip
      exfalso; omega
  · skip
    exfalso; omega
def rmX7_release_ok : Room := { frames := 6, cells := 0, slots := 0, locals := 90 }
set_option maxRecDepth 100000 in
set_option maxHeartbeats 4000000 in
theorem kX7_release_ok (l : Launch) (dC : Nat → ClassId) (dI : Nat → Nat → Nat) (cI cJ cZ : ClassId) (q : Nat → Nat)  (pw : Int → Int) (co : Int → Int) (la : Int → Int) (vo : Int → Int) (cpar : Int → Int) (fr : Int → Int) (cdee : Int → Int) (use : Int → Int) (run : Int → Int) (nC : Int) (tdue : Int → Int) (tlat : Int → Int) (twk : Int → Int) (nT : Int) (edue : Int → Int) (elat : Int → Int) (ewk : Int → Int) (nE : Int) (len : Int → Int) (cnt : Int) (tin : Int → Int) (sp : Int) (pe : Int) (slp : Int) (late : Int) (srv : Int) (hv : Int → Int) (av : Int) (bd : Int) (sh : Int) (sc : Int → Int) (lt : Int → Int) (rule : Int) (now : Int) (st : Int) (asl : Int) (idl : Int → Int) (idn : Int) (par : Int → Int) (div : Int → Int) (dee : Int → Int) (x1 : Int) (hx1 : zR x1) (hst : 0 ≤ st ∧ st ≤ 3) (hpw : rgZ pw 4 1000) (hco : rgZ co 4 10000) (hla : rgZ la 4 100) (hnow : 0 ≤ now ∧ now ≤ 200000) (hasl : 0 ≤ asl ∧ asl ≤ now) (hid : idR len cnt idl idn) (hnC : 1 ≤ nC ∧ nC ≤ 8) (huse : rgZ use 8 9) (hok : (0 ≤ x1 ∧ x1 < nC) ∧ 0 < use x1) : zMi l yX7_release wsX7_release rmX7_release_ok (dC, dI) (zT cI cJ cZ) (wP cI cJ cZ q pw co la vo cpar fr cdee use run nC tdue tlat twk nT edue elat ewk nE len cnt tin sp pe slp late srv hv av bd sh sc lt rule now st asl idl idn par div dee) [.ref (q 0), .int (iI x1)] (fun (r9 : Int) (u9 : Int × Int × Int × (Int → Int) × Int × (Int → Int) × Int) => r9 = use x1 - 1 ∧ (((u9.1), (u9.2.1), (u9.2.2.1), (u9.2.2.2.1), (u9.2.2.2.2.1)) = scF pw la st asl now sp pe idl idn ∧ idR (u9.2.2.2.2.2.1) (u9.2.2.2.2.2.2) (u9.2.2.2.1) (u9.2.2.2.2.1))) (fun u9 : Int × Int × Int × (Int → Int) × Int × (Int → Int) × Int => wP cI cJ cZ q pw co la vo cpar fr cdee (uZ use x1 (use x1 - 1)) run nC tdue tlat twk nT edue elat ewk nE (u9.2.2.2.2.2.1) (u9.2.2.2.2.2.2) tin (u9.2.1) (u9.2.2.1) slp late srv hv av bd sh sc lt rule now (u9.1) asl (u9.2.2.2.1) (u9.2.2.2.2.1) par div dee) 0 0 := by
  refine zent_i (cc := cX7_release) (maxL := 2) (ret := (some .int)) (by decide +kernel) rfl (Nat.le_of_ble_eq_true rfl) ?_
  intro p e s m below meth c A ls hE hP hK hA hD hS hl
  obtain ⟨hx, hb, hr, hml, hown, hts, hlocks, hmn⟩ := hE
  have hinX7 : ∀ w ∈ u_ws RX7 TX7 13, w ∈ wsX7_release := by decide +kernel
  have hinX1 : ∀ w ∈ u_ws RX1 TX1 6, w ∈ wsX7_release := by decide +kernel
  have hinX6 : ∀ w ∈ u_ws RX6 TX6 3, w ∈ wsX7_release := by decide +kernel
  have hinX4 : ∀ w ∈ u_ws RX4 TX4 6, w ∈ wsX7_release := by decide +kernel
  have hinX2 : ∀ w ∈ u_ws RX2 TX2 2, w ∈ wsX7_release := by decide +kernel
  have hl : lv_has ls 2 [(0, .ref (q 0)), (1, .int (iI x1))] := hl
  refine z_gen (fun Q hQ => ?_)
  refine lv_aload_n hx hb dX7_release_0 rfl (lv_at hl 0 rfl) ?_
  refine va_get (D := (dC, dI)) (ci := 7) (v := .ref (q 6)) (C := RX7) (T := TX7) (N := 13) hx hb hts hinX7 hown hK.1 hP 0 rfl rfl 2 (by decide) (hts _ (List.mem_of_getElem? (i := 5) rfl)) (fun _ h9 => h9) rfl dX7_release_1 ?_
  refine lv_iload_n hx hb dX7_release_4 rfl (lv_at hl 1 rfl) ?_
  refine zc_pi (va_runV (As := [.int (iI x1)]) (rest := []) ⟨hx, hb, hml, hown, hts⟩ (kX1_has l dC dI cI cJ cZ (q 6) (q 7) (q 8) (q 9) (q 10) (q 11) cpar fr cdee use run nC x1 (by first | assumption | omega | exact b2i_01 _) (by first | assumption | omega | exact b2i_01 _)) (cwV 1 hts gX7_release_X1_has rfl rfl rfl (by decide +kernel) ⟨Nat.le_of_ble_eq_true rfl, Nat.le_of_ble_eq_true rfl⟩) (zqV hK hP [6, 7, 8, 9, 10, 11] rfl 6 rfl rfl) rfl rfl hl.1 rfl (lv_room (Nat.le_of_ble_eq_true rfl)) dX7_release_5 ⟨Nat.le_of_ble_eq_true rfl, Nat.le_of_ble_eq_true rfl⟩) ?_
  refine zb_fne (tgt := 21) hx hb dX7_release_8 (by decide) (fun c_1 => ?_) (fun c_1 => ?_)
  · skip
    refine lv_aload_n hx hb dX7_release_21 rfl (lv_at hl 0 rfl) ?_
    refine va_get (D := (dC, dI)) (ci := 7) (v := .ref (q 6)) (C := RX7) (T := TX7) (N := 13) hx hb hts hinX7 hown hK.1 hP 0 rfl rfl 2 (by decide) (hts _ (List.mem_of_getElem? (i := 5) rfl)) (fun _ h9 => h9) rfl dX7_release_22 ?_
    refine lv_iload_n hx hb dX7_release_25 rfl (lv_at hl 1 rfl) ?_
    refine zc_pi (va_runV (As := [.int (iI x1)]) (rest := []) ⟨hx, hb, hml, hown, hts⟩ (kX1_usesOf l dC dI cI cJ cZ (q 6) (q 7) (q 8) (q 9) (q 10) (q 11) cpar fr cdee use run nC x1 (by first | assumption | omega | exact b2i_01 _)) (cwV 1 hts gX7_release_X1_usesOf rfl rfl rfl (by decide +kernel) ⟨Nat.le_of_ble_eq_true rfl, Nat.le_of_ble_eq_true rfl⟩) (zqV hK hP [6, 7, 8, 9, 10, 11] rfl 6 rfl rfl) rfl rfl hl.1 rfl (lv_room (Nat.le_of_ble_eq_true rfl)) dX7_release_26 ⟨Nat.le_of_ble_eq_true rfl, Nat.le_of_ble_eq_true rfl⟩) ?_
    have e_2 := huse x1 (by omega) (by omega)
    refine zi_fgt (tgt := 42) hx hb (by omega) dX7_release_29 (by decide) (fun c_3 => ?_) (fun c_3 => ?_)
    · skip
      refine lv_aload_n hx hb dX7_release_42 rfl (lv_at hl 0 rfl) ?_
      refine zc_v (va_runV (As := []) (rest := []) ⟨hx, hb, hml, hown, hts⟩ (kX7_wakeForCall l dC dI cI cJ cZ q pw co la vo cpar fr cdee use run nC tdue tlat twk nT edue elat ewk nE len cnt tin sp pe slp late srv hv av bd sh sc lt rule now st asl idl idn par div dee (by first | assumption | omega | exact b2i_01 _) (by first | assumption | omega | exact b2i_01 _) (by first | assumption | omega | exact b2i_01 _) (by first | assumption | omega | exact b2i_01 _) (by first | assumption | omega | exact b2i_01 _) (by first | assumption | omega | exact b2i_01 _) (by first | assumption | omega | exact b2i_01 _) s.heap.size) (cwV 0 hts gX7_release_X7_wakeForCall rfl rfl rfl (by decide +kernel) ⟨Nat.le_of_ble_eq_true rfl, Nat.le_of_ble_eq_true rfl⟩) (zpV hK hP hD [0, 1, 2, 3, 4, 5, 6, 7, 8, 9, 10, 11, 12, 13, 14, 15, 16, 17, 18, 19, 20, 21, 22, 23, 24, 25, 26, 27, 28] rfl rfl 0 rfl rfl) rfl rfl hl.1 rfl (lv_room (Nat.le_of_ble_eq_true rfl)) dX7_release_43 ⟨Nat.le_of_ble_eq_true rfl, Nat.le_of_ble_eq_true rfl⟩) hP hD hS hA [0, 1, 2, 3, 4, 5, 6, 7, 8, 9, 10, 11, 12, 13, 14, 15, 16, 17, 18, 19, 20, 21, 22, 23, 24, 25, 26, 27, 28] [] rfl rfl rfl (by decide) (fun u_5 H locs r_4 hP hD hS => ?_)
      obtain ⟨stx_7, spx_8, pex_9, idlx_10, idnx_11, lenx_12, cntx_13⟩ := u_5
      have r_4 : (stx_7, spx_8, pex_9, idlx_10, idnx_11) = scF pw la st asl now sp pe idl idn ∧ idR lenx_12 cntx_13 idlx_10 idnx_11 := r_4
      have hP : va_P (dC, dI) vwCl (wP cI cJ cZ q pw co la vo cpar fr cdee use run nC tdue tlat twk nT edue elat ewk nE lenx_12 cntx_13 tin spx_8 pex_9 slp late srv hv av bd sh sc lt rule now stx_7 asl idlx_10 idnx_11 par div dee) H := hP
      have hD : va_D A (wP cI cJ cZ q pw co la vo cpar fr cdee use run nC tdue tlat twk nT edue elat ewk nE lenx_12 cntx_13 tin spx_8 pex_9 slp late srv hv av bd sh sc lt rule now stx_7 asl idlx_10 idnx_11 par div dee) := hD
      obtain ⟨hsc9, hid9⟩ := r_4
      refine lv_aload_n hx hb dX7_release_46 rfl (lv_at hl 0 rfl) ?_
      refine va_get (D := (dC, dI)) (ci := 7) (v := .ref (q 6)) (C := RX7) (T := TX7) (N := 13) hx hb hts hinX7 hown hK.1 hP 0 rfl rfl 2 (by decide) (hts _ (List.mem_of_getElem? (i := 5) rfl)) (fun _ h9 => h9) rfl dX7_release_47 ?_
      refine lv_iload_n hx hb dX7_release_50 rfl (lv_at hl 1 rfl) ?_
      refine lv_iconst (v := iI (-1)) hx hb dX7_release_51 rfl ?_
      refine zc_i (va_runV (As := [.int (iI x1), .int (iI (-1))]) (rest := []) ⟨hx, hb, hml, hown, hts⟩ (kX1_changeUses l dC dI cI cJ cZ (q 6) (q 7) (q 8) (q 9) (q 10) (q 11) cpar fr cdee use run nC x1 (-1) (by first | assumption | omega | exact b2i_01 _) H.size) (cwV 2 hts gX7_release_X1_changeUses rfl rfl rfl (by decide +kernel) ⟨Nat.le_of_ble_eq_true rfl, Nat.le_of_ble_eq_true rfl⟩) (zpV hK hP hD [6, 7, 8, 9, 10, 11] rfl rfl 6 rfl rfl) rfl rfl hl.1 rfl (lv_room (Nat.le_of_ble_eq_true rfl)) dX7_release_52 ⟨Nat.le_of_ble_eq_true rfl, Nat.le_of_ble_eq_true rfl⟩) hP hD hS hA [6, 7, 8, 9, 10, 11] [0, 1, 2, 3, 4, 5, 12, 13, 14, 15, 16, 17, 18, 19, 20, 21, 22, 23, 24, 25, 26, 27, 28] rfl rfl rfl (by decide) (fun v_16 u_15 H locs r_14 hP hD hS => ?_)
      refine ze_i r_14 ?_
      have hP : va_P (dC, dI) vwCl (wP cI cJ cZ q pw co la vo cpar fr cdee (uZ use x1 (use x1 + (-1))) run nC tdue tlat twk nT edue elat ewk nE lenx_12 cntx_13 tin spx_8 pex_9 slp late srv hv av bd sh sc lt rule now stx_7 asl idlx_10 idnx_11 par div dee) H := hP.sub [0, 1, 2, 3, 4, 5, 23, 24, 25, 26, 27, 28, 6, 7, 8, 9, 10, 11, 12, 13, 14, 15, 16, 17, 18, 19, 20, 21, 22] (z_fm rfl)
      have hD : va_D A (wP cI cJ cZ q pw co la vo cpar fr cdee (uZ use x1 (use x1 + (-1))) run nC tdue tlat twk nT edue elat ewk nE lenx_12 cntx_13 tin spx_8 pex_9 slp late srv hv av bd sh sc lt rule now stx_7 asl idlx_10 idnx_11 par div dee) := hD.sub [0, 1, 2, 3, 4, 5, 23, 24, 25, 26, 27, 28, 6, 7, 8, 9, 10, 11, 12, 13, 14, 15, 16, 17, 18, 19, 20, 21, 22] (by decide) rfl
      subst hQ
      have w_17 : (uZ use x1 (use x1 - 1)) = (uZ use x1 (use x1 + (-1))) := by first | rfl | (congr 1; omega)
      have hP : va_P (dC, dI) vwCl (wP cI cJ cZ q pw co la vo cpar fr cdee (uZ use x1 (use x1 - 1)) run nC tdue tlat twk nT edue elat ewk nE lenx_12 cntx_13 tin spx_8 pex_9 slp late srv hv av bd sh sc lt rule now stx_7 asl idlx_10 idnx_11 par div dee) H := by rw [w_17]; exact hP
      have hD : va_D A (wP cI cJ cZ q pw co la vo cpar fr cdee (uZ use x1 (use x1 - 1)) run nC tdue tlat twk nT edue elat ewk nE lenx_12 cntx_13 tin spx_8 pex_9 slp late srv hv av bd sh sc lt rule now stx_7 asl idlx_10 idnx_11 par div dee) := by rw [w_17]; exact hD
      exact zret_i (W1 := fun u9 : Int × Int × Int × (Int → Int) × Int × (Int → Int) × Int => wP cI cJ cZ q pw co la vo cpar fr cdee (uZ use x1 (use x1 - 1)) run nC tdue tlat twk nT edue elat ewk nE (u9.2.2.2.2.2.1) (u9.2.2.2.2.2.2) tin (u9.2.1) (u9.2.2.1) slp late srv hv av bd sh sc lt rule now (u9.1) asl (u9.2.2.2.1) (u9.2.2.2.2.1) par div dee) (stx_7, spx_8, pex_9, idlx_10, idnx_11, lenx_12, cntx_13) hx hb hr hP hD hS hlocks dX7_release_55 (by exact ⟨by omega, hsc9, hid9⟩)
    · skip
      exfalso; omega
  · skip
    exfalso; omega
def rmX7_runs_ok : Room := { frames := 6, cells := 0, slots := 0, locals := 90 }
set_option maxRecDepth 100000 in
set_option maxHeartbeats 4000000 in
theorem kX7_runs_ok (l : Launch) (dC : Nat → ClassId) (dI : Nat → Nat → Nat) (cI cJ cZ : ClassId) (q : Nat → Nat)  (pw : Int → Int) (co : Int → Int) (la : Int → Int) (vo : Int → Int) (cpar : Int → Int) (fr : Int → Int) (cdee : Int → Int) (use : Int → Int) (run : Int → Int) (nC : Int) (tdue : Int → Int) (tlat : Int → Int) (twk : Int → Int) (nT : Int) (edue : Int → Int) (elat : Int → Int) (ewk : Int → Int) (nE : Int) (len : Int → Int) (cnt : Int) (tin : Int → Int) (sp : Int) (pe : Int) (slp : Int) (late : Int) (srv : Int) (hv : Int → Int) (av : Int) (bd : Int) (sh : Int) (sc : Int → Int) (lt : Int → Int) (rule : Int) (now : Int) (st : Int) (asl : Int) (idl : Int → Int) (idn : Int) (par : Int → Int) (div : Int → Int) (dee : Int → Int) (x1 : Int) (hx1 : zR x1) (hnC : 1 ≤ nC ∧ nC ≤ 8) (hcp : ∀ c : Int, 1 ≤ c → c < nC → 0 ≤ cpar c ∧ cpar c < c) (huse : rgZ use 8 9) (hrun : tfZ run) (hok : 0 ≤ x1 ∧ x1 < nC) : zMi l yX7_runs wsX7_runs rmX7_runs_ok (dC, dI) (zT cI cJ cZ) (wP cI cJ cZ q pw co la vo cpar fr cdee use run nC tdue tlat twk nT edue elat ewk nE len cnt tin sp pe slp late srv hv av bd sh sc lt rule now st asl idl idn par div dee) [.ref (q 0), .int (iI x1)] (fun (r9 : Int) (_ : Unit) => r9 = b2i (rnZ cpar (nC - 1) (r0Z use nC run) x1 ≠ 0)) (fun _ : Unit => wP cI cJ cZ q pw co la vo cpar fr cdee use (rnZ cpar (nC - 1) (r0Z use nC run)) nC tdue tlat twk nT edue elat ewk nE len cnt tin sp pe slp late srv hv av bd sh sc lt rule now st asl idl idn par div dee) 0 0 := by
  refine zent_i (cc := cX7_runs) (maxL := 2) (ret := (some .boolean)) (by decide +kernel) rfl (Nat.le_of_ble_eq_true rfl) ?_
  intro p e s m below meth c A ls hE hP hK hA hD hS hl
  obtain ⟨hx, hb, hr, hml, hown, hts, hlocks, hmn⟩ := hE
  have hinX7 : ∀ w ∈ u_ws RX7 TX7 13, w ∈ wsX7_runs := by decide +kernel
  have hinX1 : ∀ w ∈ u_ws RX1 TX1 6, w ∈ wsX7_runs := by decide +kernel
  have hl : lv_has ls 2 [(0, .ref (q 0)), (1, .int (iI x1))] := hl
  refine z_gen (fun Q hQ => ?_)
  refine lv_aload_n hx hb dX7_runs_0 rfl (lv_at hl 0 rfl) ?_
  refine va_get (D := (dC, dI)) (ci := 7) (v := .ref (q 6)) (C := RX7) (T := TX7) (N := 13) hx hb hts hinX7 hown hK.1 hP 0 rfl rfl 2 (by decide) (hts _ (List.mem_of_getElem? (i := 3) rfl)) (fun _ h9 => h9) rfl dX7_runs_1 ?_
  refine lv_iload_n hx hb dX7_runs_4 rfl (lv_at hl 1 rfl) ?_
  refine zc_pi (va_runV (As := [.int (iI x1)]) (rest := []) ⟨hx, hb, hml, hown, hts⟩ (kX1_has l dC dI cI cJ cZ (q 6) (q 7) (q 8) (q 9) (q 10) (q 11) cpar fr cdee use run nC x1 (by first | assumption | omega | exact b2i_01 _) (by first | assumption | omega | exact b2i_01 _)) (cwV 1 hts gX7_runs_X1_has rfl rfl rfl (by decide +kernel) ⟨Nat.le_of_ble_eq_true rfl, Nat.le_of_ble_eq_true rfl⟩) (zqV hK hP [6, 7, 8, 9, 10, 11] rfl 6 rfl rfl) rfl rfl hl.1 rfl (lv_room (Nat.le_of_ble_eq_true rfl)) dX7_runs_5 ⟨Nat.le_of_ble_eq_true rfl, Nat.le_of_ble_eq_true rfl⟩) ?_
  refine zb_fne (tgt := 21) hx hb dX7_runs_8 (by decide) (fun c_1 => ?_) (fun c_1 => ?_)
  · skip
    refine lv_aload_n hx hb dX7_runs_21 rfl (lv_at hl 0 rfl) ?_
    refine va_get (D := (dC, dI)) (ci := 7) (v := .ref (q 6)) (C := RX7) (T := TX7) (N := 13) hx hb hts hinX7 hown hK.1 hP 0 rfl rfl 2 (by decide) (hts _ (List.mem_of_getElem? (i := 3) rfl)) (fun _ h9 => h9) rfl dX7_runs_22 ?_
    refine lv_iload_n hx hb dX7_runs_25 rfl (lv_at hl 1 rfl) ?_
    refine zc_i (va_runV (As := [.int (iI x1)]) (rest := []) ⟨hx, hb, hml, hown, hts⟩ (kX1_isRunning l dC dI cI cJ cZ (q 6) (q 7) (q 8) (q 9) (q 10) (q 11) cpar fr cdee use run nC x1 (by first | assumption | omega | exact b2i_01 _) (by first | assumption | omega | exact b2i_01 _) (by first | assumption | omega | exact b2i_01 _) (by first | assumption | omega | exact b2i_01 _) (by first | assumption | omega | exact b2i_01 _) s.heap.size) (cwV 1 hts gX7_runs_X1_isRunning rfl rfl rfl (by decide +kernel) ⟨Nat.le_of_ble_eq_true rfl, Nat.le_of_ble_eq_true rfl⟩) (zpV hK hP hD [6, 7, 8, 9, 10, 11] rfl rfl 6 rfl rfl) rfl rfl hl.1 rfl (lv_room (Nat.le_of_ble_eq_true rfl)) dX7_runs_26 ⟨Nat.le_of_ble_eq_true rfl, Nat.le_of_ble_eq_true rfl⟩) hP hD hS hA [6, 7, 8, 9, 10, 11] [0, 1, 2, 3, 4, 5, 12, 13, 14, 15, 16, 17, 18, 19, 20, 21, 22, 23, 24, 25, 26, 27, 28] rfl rfl rfl (by decide) (fun v_4 u_3 H locs r_2 hP hD hS => ?_)
    refine ze_i r_2 ?_
    have hP : va_P (dC, dI) vwCl (wP cI cJ cZ q pw co la vo cpar fr cdee use (rnZ cpar (nC - 1) (r0Z use nC run)) nC tdue tlat twk nT edue elat ewk nE len cnt tin sp pe slp late srv hv av bd sh sc lt rule now st asl idl idn par div dee) H := hP.sub [0, 1, 2, 3, 4, 5, 23, 24, 25, 26, 27, 28, 6, 7, 8, 9, 10, 11, 12, 13, 14, 15, 16, 17, 18, 19, 20, 21, 22] (z_fm rfl)
    have hD : va_D A (wP cI cJ cZ q pw co la vo cpar fr cdee use (rnZ cpar (nC - 1) (r0Z use nC run)) nC tdue tlat twk nT edue elat ewk nE len cnt tin sp pe slp late srv hv av bd sh sc lt rule now st asl idl idn par div dee) := hD.sub [0, 1, 2, 3, 4, 5, 23, 24, 25, 26, 27, 28, 6, 7, 8, 9, 10, 11, 12, 13, 14, 15, 16, 17, 18, 19, 20, 21, 22] (by decide) rfl
    subst hQ
    exact zret_z (W1 := fun _ : Unit => wP cI cJ cZ q pw co la vo cpar fr cdee use (rnZ cpar (nC - 1) (r0Z use nC run)) nC tdue tlat twk nT edue elat ewk nE len cnt tin sp pe slp late srv hv av bd sh sc lt rule now st asl idl idn par div dee) () hx hb hr hP hD hS hlocks dX7_runs_29 (b2i_01 _) (by exact rfl)
  · skip
    exfalso; omega
def rmX7_breakEven_ok : Room := { frames := 6, cells := 0, slots := 0, locals := 90 }
set_option maxRecDepth 100000 in
set_option maxHeartbeats 4000000 in
theorem kX7_breakEven_ok (l : Launch) (dC : Nat → ClassId) (dI : Nat → Nat → Nat) (cI cJ cZ : ClassId) (q : Nat → Nat)  (pw : Int → Int) (co : Int → Int) (la : Int → Int) (vo : Int → Int) (cpar : Int → Int) (fr : Int → Int) (cdee : Int → Int) (use : Int → Int) (run : Int → Int) (nC : Int) (tdue : Int → Int) (tlat : Int → Int) (twk : Int → Int) (nT : Int) (edue : Int → Int) (elat : Int → Int) (ewk : Int → Int) (nE : Int) (len : Int → Int) (cnt : Int) (tin : Int → Int) (sp : Int) (pe : Int) (slp : Int) (late : Int) (srv : Int) (hv : Int → Int) (av : Int) (bd : Int) (sh : Int) (sc : Int → Int) (lt : Int → Int) (rule : Int) (now : Int) (st : Int) (asl : Int) (idl : Int → Int) (idn : Int) (par : Int → Int) (div : Int → Int) (dee : Int → Int) (x1 : Int) (hx1 : zR x1) (hpw : rgZ pw 4 1000) (hco : rgZ co 4 10000) (hla : rgZ la 4 100) (hok : 1 ≤ x1 ∧ x1 ≤ 3) : zMi l yX7_breakEven wsX7_breakEven rmX7_breakEven_ok (dC, dI) (zT cI cJ cZ) (wP cI cJ cZ q pw co la vo cpar fr cdee use run nC tdue tlat twk nT edue elat ewk nE len cnt tin sp pe slp late srv hv av bd sh sc lt rule now st asl idl idn par div dee) [.ref (q 0), .int (iI x1)] (fun (r9 : Int) (_ : Unit) => r9 = evA pw co la x1) (fun _ : Unit => wP cI cJ cZ q pw co la vo cpar fr cdee use run nC tdue tlat twk nT edue elat ewk nE len cnt tin sp pe slp late srv hv av bd sh sc lt rule now st asl idl idn par div dee) 0 0 := by
  refine zent_i (cc := cX7_breakEven) (maxL := 2) (ret := (some .int)) (by decide +kernel) rfl (Nat.le_of_ble_eq_true rfl) ?_
  intro p e s m below meth c A ls hE hP hK hA hD hS hl
  obtain ⟨hx, hb, hr, hml, hown, hts, hlocks, hmn⟩ := hE
  have hinX7 : ∀ w ∈ u_ws RX7 TX7 13, w ∈ wsX7_breakEven := by decide +kernel
  have hinX6 : ∀ w ∈ u_ws RX6 TX6 3, w ∈ wsX7_breakEven := by decide +kernel
  have hl : lv_has ls 2 [(0, .ref (q 0)), (1, .int (iI x1))] := hl
  refine z_gen (fun Q hQ => ?_)
  refine lv_iload_n hx hb dX7_breakEven_0 rfl (lv_at hl 1 rfl) ?_
  refine lv_iconst (v := iI 1) hx hb dX7_breakEven_1 rfl ?_
  refine lv_iconst (v := iI 3) hx hb dX7_breakEven_2 rfl ?_
  refine zc_pi (va_runS (As := [.int (iI x1), .int (iI 1), .int (iI 3)]) (rest := []) ⟨hx, hb, hml, hown, hts⟩ (kX7_isWithin l dC dI cI cJ cZ x1 1 3 (by first | assumption | omega | exact b2i_01 _) (by first | assumption | omega | exact b2i_01 _) (by first | assumption | omega | exact b2i_01 _)) (va_cwS 3 hts gX7_breakEven_X7_isWithin rfl rfl rfl (by decide +kernel) ⟨Nat.le_of_ble_eq_true rfl, Nat.le_of_ble_eq_true rfl⟩) (zqS hK hP [] rfl) rfl rfl hl.1 rfl (lv_room (Nat.le_of_ble_eq_true rfl)) dX7_breakEven_3 ⟨Nat.le_of_ble_eq_true rfl, Nat.le_of_ble_eq_true rfl⟩) ?_
  refine zb_fne (tgt := 19) hx hb dX7_breakEven_6 (by decide) (fun c_1 => ?_) (fun c_1 => ?_)
  · skip
    refine lv_aload_n hx hb dX7_breakEven_19 rfl (lv_at hl 0 rfl) ?_
    refine va_get (D := (dC, dI)) (ci := 7) (v := .ref (q 1)) (C := RX7) (T := TX7) (N := 13) hx hb hts hinX7 hown hK.1 hP 0 rfl rfl 0 (by decide) (hts _ (List.mem_of_getElem? (i := 3) rfl)) (fun _ h9 => h9) rfl dX7_breakEven_20 ?_
    refine lv_iload_n hx hb dX7_breakEven_23 rfl (lv_at hl 1 rfl) ?_
    refine zc_pi (va_runV (As := [.int (iI x1)]) (rest := []) ⟨hx, hb, hml, hown, hts⟩ (kX6_leastWorthwhile l dC dI cI cJ cZ (q 1) (q 2) (q 3) (q 4) pw co la x1 (by first | assumption | omega | exact b2i_01 _) (by first | assumption | omega | exact b2i_01 _) (by first | assumption | omega | exact b2i_01 _) (by first | assumption | omega | exact b2i_01 _)) (cwV 1 hts gX7_breakEven_X6_leastWorthwhile rfl rfl rfl (by decide +kernel) ⟨Nat.le_of_ble_eq_true rfl, Nat.le_of_ble_eq_true rfl⟩) (zqV hK hP [1, 2, 3, 4] rfl 1 rfl rfl) rfl rfl hl.1 rfl (lv_room (Nat.le_of_ble_eq_true rfl)) dX7_breakEven_24 ⟨Nat.le_of_ble_eq_true rfl, Nat.le_of_ble_eq_true rfl⟩) ?_
    subst hQ
    exact zret_i (W1 := fun _ : Unit => wP cI cJ cZ q pw co la vo cpar fr cdee use run nC tdue tlat twk nT edue elat ewk nE len cnt tin sp pe slp late srv hv av bd sh sc lt rule now st asl idl idn par div dee) () hx hb hr hP hD hS hlocks dX7_breakEven_27 (by exact rfl)
  · skip
    exfalso; omega
def rmX7_schedule_ok : Room := { frames := 6, cells := 0, slots := 0, locals := 90 }
set_option maxRecDepth 100000 in
set_option maxHeartbeats 4000000 in
theorem kX7_schedule_ok (l : Launch) (dC : Nat → ClassId) (dI : Nat → Nat → Nat) (cI cJ cZ : ClassId) (q : Nat → Nat)  (pw : Int → Int) (co : Int → Int) (la : Int → Int) (vo : Int → Int) (cpar : Int → Int) (fr : Int → Int) (cdee : Int → Int) (use : Int → Int) (run : Int → Int) (nC : Int) (tdue : Int → Int) (tlat : Int → Int) (twk : Int → Int) (nT : Int) (edue : Int → Int) (elat : Int → Int) (ewk : Int → Int) (nE : Int) (len : Int → Int) (cnt : Int) (tin : Int → Int) (sp : Int) (pe : Int) (slp : Int) (late : Int) (srv : Int) (hv : Int → Int) (av : Int) (bd : Int) (sh : Int) (sc : Int → Int) (lt : Int → Int) (rule : Int) (now : Int) (st : Int) (asl : Int) (idl : Int → Int) (idn : Int) (par : Int → Int) (div : Int → Int) (dee : Int → Int) (x1 x2 x3 : Int) (hx1 : zR x1) (hx2 : zR x2) (hx3 : zR x3) (hst : 0 ≤ st ∧ st ≤ 3) (hpw : rgZ pw 4 1000) (hco : rgZ co 4 10000) (hla : rgZ la 4 100) (hnow : 0 ≤ now ∧ now ≤ 200000) (hasl : 0 ≤ asl ∧ asl ≤ now) (hid : idR len cnt idl idn) (hnT : 0 ≤ nT ∧ nT ≤ 12) (hok : ((now ≤ x1 ∧ x1 ≤ now + 1000) ∧ (0 ≤ x2 ∧ x2 ≤ 500) ∧ (1 ≤ x3 ∧ x3 ≤ 50)) ∧ nT < 12) : zMi l yX7_schedule wsX7_schedule rmX7_schedule_ok (dC, dI) (zT cI cJ cZ) (wP cI cJ cZ q pw co la vo cpar fr cdee use run nC tdue tlat twk nT edue elat ewk nE len cnt tin sp pe slp late srv hv av bd sh sc lt rule now st asl idl idn par div dee) [.ref (q 0), .int (iI x1), .int (iI x2), .int (iI x3)] (fun (r9 : Int) (u9 : Int × Int × Int × (Int → Int) × Int × (Int → Int) × Int) => r9 = nT + 1 ∧ (((u9.1), (u9.2.1), (u9.2.2.1), (u9.2.2.2.1), (u9.2.2.2.2.1)) = scF pw la st asl now sp pe idl idn ∧ idR (u9.2.2.2.2.2.1) (u9.2.2.2.2.2.2) (u9.2.2.2.1) (u9.2.2.2.2.1))) (fun u9 : Int × Int × Int × (Int → Int) × Int × (Int → Int) × Int => wP cI cJ cZ q pw co la vo cpar fr cdee use run nC (uZ tdue nT x1) (uZ tlat nT (x1 + x2)) (uZ twk nT x3) (nT + 1) edue elat ewk nE (u9.2.2.2.2.2.1) (u9.2.2.2.2.2.2) tin (u9.2.1) (u9.2.2.1) slp late srv hv av bd sh sc lt rule now (u9.1) asl (u9.2.2.2.1) (u9.2.2.2.2.1) par div dee) 0 0 := by
  refine zent_i (cc := cX7_schedule) (maxL := 4) (ret := (some .int)) (by decide +kernel) rfl (Nat.le_of_ble_eq_true rfl) ?_
  intro p e s m below meth c A ls hE hP hK hA hD hS hl
  obtain ⟨hx, hb, hr, hml, hown, hts, hlocks, hmn⟩ := hE
  have hinX7 : ∀ w ∈ u_ws RX7 TX7 13, w ∈ wsX7_schedule := by decide +kernel
  have hinX3 : ∀ w ∈ u_ws RX3 TX3 4, w ∈ wsX7_schedule := by decide +kernel
  have hinX6 : ∀ w ∈ u_ws RX6 TX6 3, w ∈ wsX7_schedule := by decide +kernel
  have hinX4 : ∀ w ∈ u_ws RX4 TX4 6, w ∈ wsX7_schedule := by decide +kernel
  have hinX2 : ∀ w ∈ u_ws RX2 TX2 2, w ∈ wsX7_schedule := by decide +kernel
  have hl : lv_has ls 4 [(0, .ref (q 0)), (1, .int (iI x1)), (2, .int (iI x2)), (3, .int (iI x3))] := hl
  refine z_gen (fun Q hQ => ?_)
  refine lv_iload_n hx hb dX7_schedule_0 rfl (lv_at hl 1 rfl) ?_
  refine lv_aload_n hx hb dX7_schedule_1 rfl (lv_at hl 0 rfl) ?_
  refine va_get (D := (dC, dI)) (ci := 7) (v := .int (iI now)) (C := RX7) (T := TX7) (N := 13) hx hb hts hinX7 hown hK.1 hP 0 rfl rfl 10 (by decide) (hts _ (List.mem_of_getElem? (i := 5) rfl)) (fun _ h9 => h9) rfl dX7_schedule_2 ?_
  refine lv_aload_n hx hb dX7_schedule_5 rfl (lv_at hl 0 rfl) ?_
  refine va_get (D := (dC, dI)) (ci := 7) (v := .int (iI now)) (C := RX7) (T := TX7) (N := 13) hx hb hts hinX7 hown hK.1 hP 0 rfl rfl 10 (by decide) (hts _ (List.mem_of_getElem? (i := 5) rfl)) (fun _ h9 => h9) rfl dX7_schedule_6 ?_
  refine lv_sipush (v := iI 1000) hx hb dX7_schedule_9 (by decide) ?_
  refine zi_add hx hb dX7_schedule_12 ?_
  refine zc_pi (va_runS (As := [.int (iI x1), .int (iI now), .int (iI (now + 1000))]) (rest := []) ⟨hx, hb, hml, hown, hts⟩ (kX7_isWithin l dC dI cI cJ cZ x1 now (now + 1000) (by first | assumption | omega | exact b2i_01 _) (by first | assumption | omega | exact b2i_01 _) (by first | assumption | omega | exact b2i_01 _)) (va_cwS 3 hts gX7_schedule_X7_isWithin rfl rfl rfl (by decide +kernel) ⟨Nat.le_of_ble_eq_true rfl, Nat.le_of_ble_eq_true rfl⟩) (zqS hK hP [] rfl) rfl rfl hl.1 rfl (lv_room (Nat.le_of_ble_eq_true rfl)) dX7_schedule_13 ⟨Nat.le_of_ble_eq_true rfl, Nat.le_of_ble_eq_true rfl⟩) ?_
  refine zb_feq (tgt := 40) hx hb dX7_schedule_16 (by decide) (fun c_1 => ?_) (fun c_1 => ?_)
  · skip
    exfalso; omega
  · skip
    refine lv_iload_n hx hb dX7_schedule_19 rfl (lv_at hl 2 rfl) ?_
    refine lv_iconst (v := iI 0) hx hb dX7_schedule_20 rfl ?_
    refine lv_sipush (v := iI 500) hx hb dX7_schedule_21 (by decide) ?_
    refine zc_pi (va_runS (As := [.int (iI x2), .int (iI 0), .int (iI 500)]) (rest := []) ⟨hx, hb, hml, hown, hts⟩ (kX7_isWithin l dC dI cI cJ cZ x2 0 500 (by first | assumption | omega | exact b2i_01 _) (by first | assumption | omega | exact b2i_01 _) (by first | assumption | omega | exact b2i_01 _)) (va_cwS 3 hts gX7_schedule_X7_isWithin rfl rfl rfl (by decide +kernel) ⟨Nat.le_of_ble_eq_true rfl, Nat.le_of_ble_eq_true rfl⟩) (zqS hK hP [] rfl) rfl rfl hl.1 rfl (lv_room (Nat.le_of_ble_eq_true rfl)) dX7_schedule_24 ⟨Nat.le_of_ble_eq_true rfl, Nat.le_of_ble_eq_true rfl⟩) ?_
    refine zb_feq (tgt := 40) hx hb dX7_schedule_27 (by decide) (fun c_2 => ?_) (fun c_2 => ?_)
    · skip
      exfalso; omega
    · skip
      refine lv_iload_n hx hb dX7_schedule_30 rfl (lv_at hl 3 rfl) ?_
      refine lv_iconst (v := iI 1) hx hb dX7_schedule_31 rfl ?_
      refine lv_bipush (v := iI 50) hx hb dX7_schedule_32 (by decide) ?_
      refine zc_pi (va_runS (As := [.int (iI x3), .int (iI 1), .int (iI 50)]) (rest := []) ⟨hx, hb, hml, hown, hts⟩ (kX7_isWithin l dC dI cI cJ cZ x3 1 50 (by first | assumption | omega | exact b2i_01 _) (by first | assumption | omega | exact b2i_01 _) (by first | assumption | omega | exact b2i_01 _)) (va_cwS 3 hts gX7_schedule_X7_isWithin rfl rfl rfl (by decide +kernel) ⟨Nat.le_of_ble_eq_true rfl, Nat.le_of_ble_eq_true rfl⟩) (zqS hK hP [] rfl) rfl rfl hl.1 rfl (lv_room (Nat.le_of_ble_eq_true rfl)) dX7_schedule_34 ⟨Nat.le_of_ble_eq_true rfl, Nat.le_of_ble_eq_true rfl⟩) ?_
      refine zb_fne (tgt := 50) hx hb dX7_schedule_37 (by decide) (fun c_3 => ?_) (fun c_3 => ?_)
      · skip
        refine lv_aload_n hx hb dX7_schedule_50 rfl (lv_at hl 0 rfl) ?_
        refine va_get (D := (dC, dI)) (ci := 7) (v := .ref (q 12)) (C := RX7) (T := TX7) (N := 13) hx hb hts hinX7 hown hK.1 hP 0 rfl rfl 3 (by decide) (hts _ (List.mem_of_getElem? (i := 6) rfl)) (fun _ h9 => h9) rfl dX7_schedule_51 ?_
        refine zc_pi (va_runV (As := []) (rest := []) ⟨hx, hb, hml, hown, hts⟩ (kX3_isFull l dC dI cI cJ cZ (q 12) (q 13) (q 14) (q 15) tdue tlat twk nT (by first | assumption | omega | exact b2i_01 _)) (cwV 0 hts gX7_schedule_X3_isFull rfl rfl rfl (by decide +kernel) ⟨Nat.le_of_ble_eq_true rfl, Nat.le_of_ble_eq_true rfl⟩) (zqV hK hP [12, 13, 14, 15] rfl 12 rfl rfl) rfl rfl hl.1 rfl (lv_room (Nat.le_of_ble_eq_true rfl)) dX7_schedule_54 ⟨Nat.le_of_ble_eq_true rfl, Nat.le_of_ble_eq_true rfl⟩) ?_
        refine zb_feq (tgt := 70) hx hb dX7_schedule_57 (by decide) (fun c_4 => ?_) (fun c_4 => ?_)
        · skip
          refine lv_aload_n hx hb dX7_schedule_70 rfl (lv_at hl 0 rfl) ?_
          refine zc_v (va_runV (As := []) (rest := []) ⟨hx, hb, hml, hown, hts⟩ (kX7_wakeForCall l dC dI cI cJ cZ q pw co la vo cpar fr cdee use run nC tdue tlat twk nT edue elat ewk nE len cnt tin sp pe slp late srv hv av bd sh sc lt rule now st asl idl idn par div dee (by first | assumption | omega | exact b2i_01 _) (by first | assumption | omega | exact b2i_01 _) (by first | assumption | omega | exact b2i_01 _) (by first | assumption | omega | exact b2i_01 _) (by first | assumption | omega | exact b2i_01 _) (by first | assumption | omega | exact b2i_01 _) (by first | assumption | omega | exact b2i_01 _) s.heap.size) (cwV 0 hts gX7_schedule_X7_wakeForCall rfl rfl rfl (by decide +kernel) ⟨Nat.le_of_ble_eq_true rfl, Nat.le_of_ble_eq_true rfl⟩) (zpV hK hP hD [0, 1, 2, 3, 4, 5, 6, 7, 8, 9, 10, 11, 12, 13, 14, 15, 16, 17, 18, 19, 20, 21, 22, 23, 24, 25, 26, 27, 28] rfl rfl 0 rfl rfl) rfl rfl hl.1 rfl (lv_room (Nat.le_of_ble_eq_true rfl)) dX7_schedule_71 ⟨Nat.le_of_ble_eq_true rfl, Nat.le_of_ble_eq_true rfl⟩) hP hD hS hA [0, 1, 2, 3, 4, 5, 6, 7, 8, 9, 10, 11, 12, 13, 14, 15, 16, 17, 18, 19, 20, 21, 22, 23, 24, 25, 26, 27, 28] [] rfl rfl rfl (by decide) (fun u_6 H locs r_5 hP hD hS => ?_)
          obtain ⟨stx_8, spx_9, pex_10, idlx_11, idnx_12, lenx_13, cntx_14⟩ := u_6
          have r_5 : (stx_8, spx_9, pex_10, idlx_11, idnx_12) = scF pw la st asl now sp pe idl idn ∧ idR lenx_13 cntx_14 idlx_11 idnx_12 := r_5
          have hP : va_P (dC, dI) vwCl (wP cI cJ cZ q pw co la vo cpar fr cdee use run nC tdue tlat twk nT edue elat ewk nE lenx_13 cntx_14 tin spx_9 pex_10 slp late srv hv av bd sh sc lt rule now stx_8 asl idlx_11 idnx_12 par div dee) H := hP
          have hD : va_D A (wP cI cJ cZ q pw co la vo cpar fr cdee use run nC tdue tlat twk nT edue elat ewk nE lenx_13 cntx_14 tin spx_9 pex_10 slp late srv hv av bd sh sc lt rule now stx_8 asl idlx_11 idnx_12 par div dee) := hD
          obtain ⟨hsc9, hid9⟩ := r_5
          refine lv_aload_n hx hb dX7_schedule_74 rfl (lv_at hl 0 rfl) ?_
          refine va_get (D := (dC, dI)) (ci := 7) (v := .ref (q 12)) (C := RX7) (T := TX7) (N := 13) hx hb hts hinX7 hown hK.1 hP 0 rfl rfl 3 (by decide) (hts _ (List.mem_of_getElem? (i := 6) rfl)) (fun _ h9 => h9) rfl dX7_schedule_75 ?_
          refine lv_iload_n hx hb dX7_schedule_78 rfl (lv_at hl 1 rfl) ?_
          refine lv_iload_n hx hb dX7_schedule_79 rfl (lv_at hl 1 rfl) ?_
          refine lv_iload_n hx hb dX7_schedule_80 rfl (lv_at hl 2 rfl) ?_
          refine zi_add hx hb dX7_schedule_81 ?_
          refine lv_iload_n hx hb dX7_schedule_82 rfl (lv_at hl 3 rfl) ?_
          refine zc_i (va_runV (As := [.int (iI x1), .int (iI (x1 + x2)), .int (iI x3)]) (rest := []) ⟨hx, hb, hml, hown, hts⟩ (kX3_add l dC dI cI cJ cZ (q 12) (q 13) (q 14) (q 15) tdue tlat twk nT x1 (x1 + x2) x3 (by first | assumption | omega | exact b2i_01 _) H.size) (cwV 3 hts gX7_schedule_X3_add rfl rfl rfl (by decide +kernel) ⟨Nat.le_of_ble_eq_true rfl, Nat.le_of_ble_eq_true rfl⟩) (zpV hK hP hD [12, 13, 14, 15] rfl rfl 12 rfl rfl) rfl rfl hl.1 rfl (lv_room (Nat.le_of_ble_eq_true rfl)) dX7_schedule_83 ⟨Nat.le_of_ble_eq_true rfl, Nat.le_of_ble_eq_true rfl⟩) hP hD hS hA [12, 13, 14, 15] [0, 1, 2, 3, 4, 5, 6, 7, 8, 9, 10, 11, 16, 17, 18, 19, 20, 21, 22, 23, 24, 25, 26, 27, 28] rfl rfl rfl (by decide) (fun v_17 u_16 H locs r_15 hP hD hS => ?_)
          refine ze_i r_15 ?_
          have hP : va_P (dC, dI) vwCl (wP cI cJ cZ q pw co la vo cpar fr cdee use run nC (uZ tdue nT x1) (uZ tlat nT (x1 + x2)) (uZ twk nT x3) (nT + 1) edue elat ewk nE lenx_13 cntx_14 tin spx_9 pex_10 slp late srv hv av bd sh sc lt rule now stx_8 asl idlx_11 idnx_12 par div dee) H := hP.sub [0, 1, 2, 3, 4, 5, 6, 7, 8, 9, 10, 11, 25, 26, 27, 28, 12, 13, 14, 15, 16, 17, 18, 19, 20, 21, 22, 23, 24] (z_fm rfl)
          have hD : va_D A (wP cI cJ cZ q pw co la vo cpar fr cdee use run nC (uZ tdue nT x1) (uZ tlat nT (x1 + x2)) (uZ twk nT x3) (nT + 1) edue elat ewk nE lenx_13 cntx_14 tin spx_9 pex_10 slp late srv hv av bd sh sc lt rule now stx_8 asl idlx_11 idnx_12 par div dee) := hD.sub [0, 1, 2, 3, 4, 5, 6, 7, 8, 9, 10, 11, 25, 26, 27, 28, 12, 13, 14, 15, 16, 17, 18, 19, 20, 21, 22, 23, 24] (by decide) rfl
          subst hQ
          exact zret_i (W1 := fun u9 : Int × Int × Int × (Int → Int) × Int × (Int → Int) × Int => wP cI cJ cZ q pw co la vo cpar fr cdee use run nC (uZ tdue nT x1) (uZ tlat nT (x1 + x2)) (uZ twk nT x3) (nT + 1) edue elat ewk nE (u9.2.2.2.2.2.1) (u9.2.2.2.2.2.2) tin (u9.2.1) (u9.2.2.1) slp late srv hv av bd sh sc lt rule now (u9.1) asl (u9.2.2.2.1) (u9.2.2.2.2.1) par div dee) (stx_8, spx_9, pex_10, idlx_11, idnx_12, lenx_13, cntx_14) hx hb hr hP hD hS hlocks dX7_schedule_86 (by exact ⟨rfl, hsc9, hid9⟩)
        · skip
          exfalso; omega
      · skip
        exfalso; omega
def rmX7_addEvent_ok : Room := { frames := 6, cells := 0, slots := 0, locals := 90 }
set_option maxRecDepth 100000 in
set_option maxHeartbeats 4000000 in
theorem kX7_addEvent_ok (l : Launch) (dC : Nat → ClassId) (dI : Nat → Nat → Nat) (cI cJ cZ : ClassId) (q : Nat → Nat)  (pw : Int → Int) (co : Int → Int) (la : Int → Int) (vo : Int → Int) (cpar : Int → Int) (fr : Int → Int) (cdee : Int → Int) (use : Int → Int) (run : Int → Int) (nC : Int) (tdue : Int → Int) (tlat : Int → Int) (twk : Int → Int) (nT : Int) (edue : Int → Int) (elat : Int → Int) (ewk : Int → Int) (nE : Int) (len : Int → Int) (cnt : Int) (tin : Int → Int) (sp : Int) (pe : Int) (slp : Int) (late : Int) (srv : Int) (hv : Int → Int) (av : Int) (bd : Int) (sh : Int) (sc : Int → Int) (lt : Int → Int) (rule : Int) (now : Int) (st : Int) (asl : Int) (idl : Int → Int) (idn : Int) (par : Int → Int) (div : Int → Int) (dee : Int → Int) (x1 x2 : Int) (hx1 : zR x1) (hx2 : zR x2) (hnE : 0 ≤ nE ∧ nE ≤ 12) (hnow : 0 ≤ now ∧ now ≤ 200000) (hok : ((now ≤ x1 ∧ x1 ≤ now + 1000) ∧ (1 ≤ x2 ∧ x2 ≤ 50)) ∧ nE < 12) : zMi l yX7_addEvent wsX7_addEvent rmX7_addEvent_ok (dC, dI) (zT cI cJ cZ) (wP cI cJ cZ q pw co la vo cpar fr cdee use run nC tdue tlat twk nT edue elat ewk nE len cnt tin sp pe slp late srv hv av bd sh sc lt rule now st asl idl idn par div dee) [.ref (q 0), .int (iI x1), .int (iI x2)] (fun (r9 : Int) (_ : Unit) => r9 = nE + 1) (fun _ : Unit => wP cI cJ cZ q pw co la vo cpar fr cdee use run nC tdue tlat twk nT (uZ edue nE x1) (uZ elat nE x1) (uZ ewk nE x2) (nE + 1) len cnt tin sp pe slp late srv hv av bd sh sc lt rule now st asl idl idn par div dee) 0 0 := by
  refine zent_i (cc := cX7_addEvent) (maxL := 3) (ret := (some .int)) (by decide +kernel) rfl (Nat.le_of_ble_eq_true rfl) ?_
  intro p e s m below meth c A ls hE hP hK hA hD hS hl
  obtain ⟨hx, hb, hr, hml, hown, hts, hlocks, hmn⟩ := hE
  have hinX7 : ∀ w ∈ u_ws RX7 TX7 13, w ∈ wsX7_addEvent := by decide +kernel
  have hinX3 : ∀ w ∈ u_ws RX3 TX3 4, w ∈ wsX7_addEvent := by decide +kernel
  have hl : lv_has ls 3 [(0, .ref (q 0)), (1, .int (iI x1)), (2, .int (iI x2))] := hl
  refine z_gen (fun Q hQ => ?_)
  refine lv_iload_n hx hb dX7_addEvent_0 rfl (lv_at hl 1 rfl) ?_
  refine lv_aload_n hx hb dX7_addEvent_1 rfl (lv_at hl 0 rfl) ?_
  refine va_get (D := (dC, dI)) (ci := 7) (v := .int (iI now)) (C := RX7) (T := TX7) (N := 13) hx hb hts hinX7 hown hK.1 hP 0 rfl rfl 10 (by decide) (hts _ (List.mem_of_getElem? (i := 5) rfl)) (fun _ h9 => h9) rfl dX7_addEvent_2 ?_
  refine lv_aload_n hx hb dX7_addEvent_5 rfl (lv_at hl 0 rfl) ?_
  refine va_get (D := (dC, dI)) (ci := 7) (v := .int (iI now)) (C := RX7) (T := TX7) (N := 13) hx hb hts hinX7 hown hK.1 hP 0 rfl rfl 10 (by decide) (hts _ (List.mem_of_getElem? (i := 5) rfl)) (fun _ h9 => h9) rfl dX7_addEvent_6 ?_
  refine lv_sipush (v := iI 1000) hx hb dX7_addEvent_9 (by decide) ?_
  refine zi_add hx hb dX7_addEvent_12 ?_
  refine zc_pi (va_runS (As := [.int (iI x1), .int (iI now), .int (iI (now + 1000))]) (rest := []) ⟨hx, hb, hml, hown, hts⟩ (kX7_isWithin l dC dI cI cJ cZ x1 now (now + 1000) (by first | assumption | omega | exact b2i_01 _) (by first | assumption | omega | exact b2i_01 _) (by first | assumption | omega | exact b2i_01 _)) (va_cwS 3 hts gX7_addEvent_X7_isWithin rfl rfl rfl (by decide +kernel) ⟨Nat.le_of_ble_eq_true rfl, Nat.le_of_ble_eq_true rfl⟩) (zqS hK hP [] rfl) rfl rfl hl.1 rfl (lv_room (Nat.le_of_ble_eq_true rfl)) dX7_addEvent_13 ⟨Nat.le_of_ble_eq_true rfl, Nat.le_of_ble_eq_true rfl⟩) ?_
  refine zb_feq (tgt := 29) hx hb dX7_addEvent_16 (by decide) (fun c_1 => ?_) (fun c_1 => ?_)
  · skip
    exfalso; omega
  · skip
    refine lv_iload_n hx hb dX7_addEvent_19 rfl (lv_at hl 2 rfl) ?_
    refine lv_iconst (v := iI 1) hx hb dX7_addEvent_20 rfl ?_
    refine lv_bipush (v := iI 50) hx hb dX7_addEvent_21 (by decide) ?_
    refine zc_pi (va_runS (As := [.int (iI x2), .int (iI 1), .int (iI 50)]) (rest := []) ⟨hx, hb, hml, hown, hts⟩ (kX7_isWithin l dC dI cI cJ cZ x2 1 50 (by first | assumption | omega | exact b2i_01 _) (by first | assumption | omega | exact b2i_01 _) (by first | assumption | omega | exact b2i_01 _)) (va_cwS 3 hts gX7_addEvent_X7_isWithin rfl rfl rfl (by decide +kernel) ⟨Nat.le_of_ble_eq_true rfl, Nat.le_of_ble_eq_true rfl⟩) (zqS hK hP [] rfl) rfl rfl hl.1 rfl (lv_room (Nat.le_of_ble_eq_true rfl)) dX7_addEvent_23 ⟨Nat.le_of_ble_eq_true rfl, Nat.le_of_ble_eq_true rfl⟩) ?_
    refine zb_fne (tgt := 39) hx hb dX7_addEvent_26 (by decide) (fun c_2 => ?_) (fun c_2 => ?_)
    · skip
      refine lv_aload_n hx hb dX7_addEvent_39 rfl (lv_at hl 0 rfl) ?_
      refine va_get (D := (dC, dI)) (ci := 7) (v := .ref (q 16)) (C := RX7) (T := TX7) (N := 13) hx hb hts hinX7 hown hK.1 hP 0 rfl rfl 4 (by decide) (hts _ (List.mem_of_getElem? (i := 6) rfl)) (fun _ h9 => h9) rfl dX7_addEvent_40 ?_
      refine zc_pi (va_runV (As := []) (rest := []) ⟨hx, hb, hml, hown, hts⟩ (kX3_isFull l dC dI cI cJ cZ (q 16) (q 17) (q 18) (q 19) edue elat ewk nE (by first | assumption | omega | exact b2i_01 _)) (cwV 0 hts gX7_addEvent_X3_isFull rfl rfl rfl (by decide +kernel) ⟨Nat.le_of_ble_eq_true rfl, Nat.le_of_ble_eq_true rfl⟩) (zqV hK hP [16, 17, 18, 19] rfl 16 rfl rfl) rfl rfl hl.1 rfl (lv_room (Nat.le_of_ble_eq_true rfl)) dX7_addEvent_43 ⟨Nat.le_of_ble_eq_true rfl, Nat.le_of_ble_eq_true rfl⟩) ?_
      refine zb_feq (tgt := 59) hx hb dX7_addEvent_46 (by decide) (fun c_3 => ?_) (fun c_3 => ?_)
      · skip
        refine lv_aload_n hx hb dX7_addEvent_59 rfl (lv_at hl 0 rfl) ?_
        refine va_get (D := (dC, dI)) (ci := 7) (v := .ref (q 16)) (C := RX7) (T := TX7) (N := 13) hx hb hts hinX7 hown hK.1 hP 0 rfl rfl 4 (by decide) (hts _ (List.mem_of_getElem? (i := 6) rfl)) (fun _ h9 => h9) rfl dX7_addEvent_60 ?_
        refine lv_iload_n hx hb dX7_addEvent_63 rfl (lv_at hl 1 rfl) ?_
        refine lv_iload_n hx hb dX7_addEvent_64 rfl (lv_at hl 1 rfl) ?_
        refine lv_iload_n hx hb dX7_addEvent_65 rfl (lv_at hl 2 rfl) ?_
        refine zc_i (va_runV (As := [.int (iI x1), .int (iI x1), .int (iI x2)]) (rest := []) ⟨hx, hb, hml, hown, hts⟩ (kX3_add l dC dI cI cJ cZ (q 16) (q 17) (q 18) (q 19) edue elat ewk nE x1 x1 x2 (by first | assumption | omega | exact b2i_01 _) s.heap.size) (cwV 3 hts gX7_addEvent_X3_add rfl rfl rfl (by decide +kernel) ⟨Nat.le_of_ble_eq_true rfl, Nat.le_of_ble_eq_true rfl⟩) (zpV hK hP hD [16, 17, 18, 19] rfl rfl 16 rfl rfl) rfl rfl hl.1 rfl (lv_room (Nat.le_of_ble_eq_true rfl)) dX7_addEvent_66 ⟨Nat.le_of_ble_eq_true rfl, Nat.le_of_ble_eq_true rfl⟩) hP hD hS hA [16, 17, 18, 19] [0, 1, 2, 3, 4, 5, 6, 7, 8, 9, 10, 11, 12, 13, 14, 15, 20, 21, 22, 23, 24, 25, 26, 27, 28] rfl rfl rfl (by decide) (fun v_6 u_5 H locs r_4 hP hD hS => ?_)
        refine ze_i r_4 ?_
        have hP : va_P (dC, dI) vwCl (wP cI cJ cZ q pw co la vo cpar fr cdee use run nC tdue tlat twk nT (uZ edue nE x1) (uZ elat nE x1) (uZ ewk nE x2) (nE + 1) len cnt tin sp pe slp late srv hv av bd sh sc lt rule now st asl idl idn par div dee) H := hP.sub [0, 1, 2, 3, 4, 5, 6, 7, 8, 9, 10, 11, 12, 13, 14, 15, 25, 26, 27, 28, 16, 17, 18, 19, 20, 21, 22, 23, 24] (z_fm rfl)
        have hD : va_D A (wP cI cJ cZ q pw co la vo cpar fr cdee use run nC tdue tlat twk nT (uZ edue nE x1) (uZ elat nE x1) (uZ ewk nE x2) (nE + 1) len cnt tin sp pe slp late srv hv av bd sh sc lt rule now st asl idl idn par div dee) := hD.sub [0, 1, 2, 3, 4, 5, 6, 7, 8, 9, 10, 11, 12, 13, 14, 15, 25, 26, 27, 28, 16, 17, 18, 19, 20, 21, 22, 23, 24] (by decide) rfl
        subst hQ
        exact zret_i (W1 := fun _ : Unit => wP cI cJ cZ q pw co la vo cpar fr cdee use run nC tdue tlat twk nT (uZ edue nE x1) (uZ elat nE x1) (uZ ewk nE x2) (nE + 1) len cnt tin sp pe slp late srv hv av bd sh sc lt rule now st asl idl idn par div dee) () hx hb hr hP hD hS hlocks dX7_addEvent_69 (by exact rfl)
      · skip
        exfalso; omega
    · skip
      exfalso; omega
def rmX7_setRule_ok : Room := { frames := 6, cells := 0, slots := 0, locals := 90 }
set_option maxRecDepth 100000 in
set_option maxHeartbeats 4000000 in
theorem kX7_setRule_ok (l : Launch) (dC : Nat → ClassId) (dI : Nat → Nat → Nat) (cI cJ cZ : ClassId) (q : Nat → Nat)  (pw : Int → Int) (co : Int → Int) (la : Int → Int) (vo : Int → Int) (cpar : Int → Int) (fr : Int → Int) (cdee : Int → Int) (use : Int → Int) (run : Int → Int) (nC : Int) (tdue : Int → Int) (tlat : Int → Int) (twk : Int → Int) (nT : Int) (edue : Int → Int) (elat : Int → Int) (ewk : Int → Int) (nE : Int) (len : Int → Int) (cnt : Int) (tin : Int → Int) (sp : Int) (pe : Int) (slp : Int) (late : Int) (srv : Int) (hv : Int → Int) (av : Int) (bd : Int) (sh : Int) (sc : Int → Int) (lt : Int → Int) (rule : Int) (now : Int) (st : Int) (asl : Int) (idl : Int → Int) (idn : Int) (par : Int → Int) (div : Int → Int) (dee : Int → Int) (x1 : Int) (hx1 : zR x1) (hst : 0 ≤ st ∧ st ≤ 3) (hpw : rgZ pw 4 1000) (hco : rgZ co 4 10000) (hla : rgZ la 4 100) (hnow : 0 ≤ now ∧ now ≤ 200000) (hasl : 0 ≤ asl ∧ asl ≤ now) (hid : idR len cnt idl idn) (hok : 0 ≤ x1 ∧ x1 ≤ 2) : zMi l yX7_setRule wsX7_setRule rmX7_setRule_ok (dC, dI) (zT cI cJ cZ) (wP cI cJ cZ q pw co la vo cpar fr cdee use run nC tdue tlat twk nT edue elat ewk nE len cnt tin sp pe slp late srv hv av bd sh sc lt rule now st asl idl idn par div dee) [.ref (q 0), .int (iI x1)] (fun (r9 : Int) (u9 : Int × Int × Int × (Int → Int) × Int × (Int → Int) × Int) => r9 = rule ∧ (((u9.1), (u9.2.1), (u9.2.2.1), (u9.2.2.2.1), (u9.2.2.2.2.1)) = scF pw la st asl now sp pe idl idn ∧ idR (u9.2.2.2.2.2.1) (u9.2.2.2.2.2.2) (u9.2.2.2.1) (u9.2.2.2.2.1))) (fun u9 : Int × Int × Int × (Int → Int) × Int × (Int → Int) × Int => wP cI cJ cZ q pw co la vo cpar fr cdee use run nC tdue tlat twk nT edue elat ewk nE (u9.2.2.2.2.2.1) (u9.2.2.2.2.2.2) tin (u9.2.1) (u9.2.2.1) slp late srv hv av bd sh sc lt x1 now (u9.1) asl (u9.2.2.2.1) (u9.2.2.2.2.1) par div dee) 0 0 := by
  refine zent_i (cc := cX7_setRule) (maxL := 3) (ret := (some .int)) (by decide +kernel) rfl (Nat.le_of_ble_eq_true rfl) ?_
  intro p e s m below meth c A ls hE hP hK hA hD hS hl
  obtain ⟨hx, hb, hr, hml, hown, hts, hlocks, hmn⟩ := hE
  have hinX7 : ∀ w ∈ u_ws RX7 TX7 13, w ∈ wsX7_setRule := by decide +kernel
  have hinX6 : ∀ w ∈ u_ws RX6 TX6 3, w ∈ wsX7_setRule := by decide +kernel
  have hinX4 : ∀ w ∈ u_ws RX4 TX4 6, w ∈ wsX7_setRule := by decide +kernel
  have hinX2 : ∀ w ∈ u_ws RX2 TX2 2, w ∈ wsX7_setRule := by decide +kernel
  have hl : lv_has ls 3 [(0, .ref (q 0)), (1, .int (iI x1))] := hl
  refine z_gen (fun Q hQ => ?_)
  refine lv_iload_n hx hb dX7_setRule_0 rfl (lv_at hl 1 rfl) ?_
  refine lv_iconst (v := iI 0) hx hb dX7_setRule_1 rfl ?_
  refine lv_iconst (v := iI 2) hx hb dX7_setRule_2 rfl ?_
  refine zc_pi (va_runS (As := [.int (iI x1), .int (iI 0), .int (iI 2)]) (rest := []) ⟨hx, hb, hml, hown, hts⟩ (kX7_isWithin l dC dI cI cJ cZ x1 0 2 (by first | assumption | omega | exact b2i_01 _) (by first | assumption | omega | exact b2i_01 _) (by first | assumption | omega | exact b2i_01 _)) (va_cwS 3 hts gX7_setRule_X7_isWithin rfl rfl rfl (by decide +kernel) ⟨Nat.le_of_ble_eq_true rfl, Nat.le_of_ble_eq_true rfl⟩) (zqS hK hP [] rfl) rfl rfl hl.1 rfl (lv_room (Nat.le_of_ble_eq_true rfl)) dX7_setRule_3 ⟨Nat.le_of_ble_eq_true rfl, Nat.le_of_ble_eq_true rfl⟩) ?_
  refine zb_fne (tgt := 19) hx hb dX7_setRule_6 (by decide) (fun c_1 => ?_) (fun c_1 => ?_)
  · skip
    refine lv_aload_n hx hb dX7_setRule_19 rfl (lv_at hl 0 rfl) ?_
    refine zc_v (va_runV (As := []) (rest := []) ⟨hx, hb, hml, hown, hts⟩ (kX7_wakeForCall l dC dI cI cJ cZ q pw co la vo cpar fr cdee use run nC tdue tlat twk nT edue elat ewk nE len cnt tin sp pe slp late srv hv av bd sh sc lt rule now st asl idl idn par div dee (by first | assumption | omega | exact b2i_01 _) (by first | assumption | omega | exact b2i_01 _) (by first | assumption | omega | exact b2i_01 _) (by first | assumption | omega | exact b2i_01 _) (by first | assumption | omega | exact b2i_01 _) (by first | assumption | omega | exact b2i_01 _) (by first | assumption | omega | exact b2i_01 _) s.heap.size) (cwV 0 hts gX7_setRule_X7_wakeForCall rfl rfl rfl (by decide +kernel) ⟨Nat.le_of_ble_eq_true rfl, Nat.le_of_ble_eq_true rfl⟩) (zpV hK hP hD [0, 1, 2, 3, 4, 5, 6, 7, 8, 9, 10, 11, 12, 13, 14, 15, 16, 17, 18, 19, 20, 21, 22, 23, 24, 25, 26, 27, 28] rfl rfl 0 rfl rfl) rfl rfl hl.1 rfl (lv_room (Nat.le_of_ble_eq_true rfl)) dX7_setRule_20 ⟨Nat.le_of_ble_eq_true rfl, Nat.le_of_ble_eq_true rfl⟩) hP hD hS hA [0, 1, 2, 3, 4, 5, 6, 7, 8, 9, 10, 11, 12, 13, 14, 15, 16, 17, 18, 19, 20, 21, 22, 23, 24, 25, 26, 27, 28] [] rfl rfl rfl (by decide) (fun u_3 H locs r_2 hP hD hS => ?_)
    obtain ⟨stx_5, spx_6, pex_7, idlx_8, idnx_9, lenx_10, cntx_11⟩ := u_3
    have r_2 : (stx_5, spx_6, pex_7, idlx_8, idnx_9) = scF pw la st asl now sp pe idl idn ∧ idR lenx_10 cntx_11 idlx_8 idnx_9 := r_2
    have hP : va_P (dC, dI) vwCl (wP cI cJ cZ q pw co la vo cpar fr cdee use run nC tdue tlat twk nT edue elat ewk nE lenx_10 cntx_11 tin spx_6 pex_7 slp late srv hv av bd sh sc lt rule now stx_5 asl idlx_8 idnx_9 par div dee) H := hP
    have hD : va_D A (wP cI cJ cZ q pw co la vo cpar fr cdee use run nC tdue tlat twk nT edue elat ewk nE lenx_10 cntx_11 tin spx_6 pex_7 slp late srv hv av bd sh sc lt rule now stx_5 asl idlx_8 idnx_9 par div dee) := hD
    obtain ⟨hsc9, hid9⟩ := r_2
    refine lv_aload_n hx hb dX7_setRule_23 rfl (lv_at hl 0 rfl) ?_
    refine va_get (D := (dC, dI)) (ci := 7) (v := .int (iI rule)) (C := RX7) (T := TX7) (N := 13) hx hb hts hinX7 hown hK.1 hP 0 rfl rfl 9 (by decide) (hts _ (List.mem_of_getElem? (i := 3) rfl)) (fun _ h9 => h9) rfl dX7_setRule_24 ?_
    refine lv_istore_n (lv' := [(2, .int (iI rule)), (0, .ref (q 0)), (1, .int (iI x1))]) hx hb dX7_setRule_27 rfl hl (by decide) rfl (fun ls hl => ?_)
    refine lv_aload_n hx hb dX7_setRule_28 rfl (lv_at hl 1 rfl) ?_
    refine lv_iload_n hx hb dX7_setRule_29 rfl (lv_at hl 2 rfl) ?_
    refine va_put (D := (dC, dI)) (ci := 7) (v := .int (iI x1)) (ty := .int) (C := RX7) (T := TX7) (N := 13) hx hb hts hinX7 tyX7 tyX7_ok nmX7 hown hK.1 hP hD hS 0 rfl rfl 9 (by decide) (hts _ (List.mem_of_getElem? (i := 3) rfl)) (fun _ h9 => h9) rfl (by decide +kernel) rfl rfl (Nat.le_of_ble_eq_true rfl) dX7_setRule_30 (fun H locs hP hD hS => ?_)
    have hP : va_P (dC, dI) vwCl (wP cI cJ cZ q pw co la vo cpar fr cdee use run nC tdue tlat twk nT edue elat ewk nE lenx_10 cntx_11 tin spx_6 pex_7 slp late srv hv av bd sh sc lt x1 now stx_5 asl idlx_8 idnx_9 par div dee) H := hP
    have hD : va_D A (wP cI cJ cZ q pw co la vo cpar fr cdee use run nC tdue tlat twk nT edue elat ewk nE lenx_10 cntx_11 tin spx_6 pex_7 slp late srv hv av bd sh sc lt x1 now stx_5 asl idlx_8 idnx_9 par div dee) := hD
    refine lv_iload_n hx hb dX7_setRule_33 rfl (lv_at hl 0 rfl) ?_
    subst hQ
    exact zret_i (W1 := fun u9 : Int × Int × Int × (Int → Int) × Int × (Int → Int) × Int => wP cI cJ cZ q pw co la vo cpar fr cdee use run nC tdue tlat twk nT edue elat ewk nE (u9.2.2.2.2.2.1) (u9.2.2.2.2.2.2) tin (u9.2.1) (u9.2.2.1) slp late srv hv av bd sh sc lt x1 now (u9.1) asl (u9.2.2.2.1) (u9.2.2.2.2.1) par div dee) (stx_5, spx_6, pex_7, idlx_8, idnx_9, lenx_10, cntx_11) hx hb hr hP hD hS hlocks dX7_setRule_34 (by exact ⟨rfl, hsc9, hid9⟩)
  · skip
    exfalso; omega
def rmX7_ticksIn_ok : Room := { frames := 6, cells := 0, slots := 0, locals := 90 }
set_option maxRecDepth 100000 in
set_option maxHeartbeats 4000000 in
theorem kX7_ticksIn_ok (l : Launch) (dC : Nat → ClassId) (dI : Nat → Nat → Nat) (cI cJ cZ : ClassId) (q : Nat → Nat)  (pw : Int → Int) (co : Int → Int) (la : Int → Int) (vo : Int → Int) (cpar : Int → Int) (fr : Int → Int) (cdee : Int → Int) (use : Int → Int) (run : Int → Int) (nC : Int) (tdue : Int → Int) (tlat : Int → Int) (twk : Int → Int) (nT : Int) (edue : Int → Int) (elat : Int → Int) (ewk : Int → Int) (nE : Int) (len : Int → Int) (cnt : Int) (tin : Int → Int) (sp : Int) (pe : Int) (slp : Int) (late : Int) (srv : Int) (hv : Int → Int) (av : Int) (bd : Int) (sh : Int) (sc : Int → Int) (lt : Int → Int) (rule : Int) (now : Int) (st : Int) (asl : Int) (idl : Int → Int) (idn : Int) (par : Int → Int) (div : Int → Int) (dee : Int → Int) (x1 : Int) (hx1 : zR x1) (hok : 0 ≤ x1 ∧ x1 ≤ 3) : zMi l yX7_ticksIn wsX7_ticksIn rmX7_ticksIn_ok (dC, dI) (zT cI cJ cZ) (wP cI cJ cZ q pw co la vo cpar fr cdee use run nC tdue tlat twk nT edue elat ewk nE len cnt tin sp pe slp late srv hv av bd sh sc lt rule now st asl idl idn par div dee) [.ref (q 0), .int (iI x1)] (fun (r9 : Int) (_ : Unit) => r9 = tin x1) (fun _ : Unit => wP cI cJ cZ q pw co la vo cpar fr cdee use run nC tdue tlat twk nT edue elat ewk nE len cnt tin sp pe slp late srv hv av bd sh sc lt rule now st asl idl idn par div dee) 0 0 := by
  refine zent_i (cc := cX7_ticksIn) (maxL := 2) (ret := (some .int)) (by decide +kernel) rfl (Nat.le_of_ble_eq_true rfl) ?_
  intro p e s m below meth c A ls hE hP hK hA hD hS hl
  obtain ⟨hx, hb, hr, hml, hown, hts, hlocks, hmn⟩ := hE
  have hinX7 : ∀ w ∈ u_ws RX7 TX7 13, w ∈ wsX7_ticksIn := by decide +kernel
  have hinX4 : ∀ w ∈ u_ws RX4 TX4 6, w ∈ wsX7_ticksIn := by decide +kernel
  have hl : lv_has ls 2 [(0, .ref (q 0)), (1, .int (iI x1))] := hl
  refine z_gen (fun Q hQ => ?_)
  refine lv_iload_n hx hb dX7_ticksIn_0 rfl (lv_at hl 1 rfl) ?_
  refine lv_iconst (v := iI 0) hx hb dX7_ticksIn_1 rfl ?_
  refine lv_iconst (v := iI 3) hx hb dX7_ticksIn_2 rfl ?_
  refine zc_pi (va_runS (As := [.int (iI x1), .int (iI 0), .int (iI 3)]) (rest := []) ⟨hx, hb, hml, hown, hts⟩ (kX7_isWithin l dC dI cI cJ cZ x1 0 3 (by first | assumption | omega | exact b2i_01 _) (by first | assumption | omega | exact b2i_01 _) (by first | assumption | omega | exact b2i_01 _)) (va_cwS 3 hts gX7_ticksIn_X7_isWithin rfl rfl rfl (by decide +kernel) ⟨Nat.le_of_ble_eq_true rfl, Nat.le_of_ble_eq_true rfl⟩) (zqS hK hP [] rfl) rfl rfl hl.1 rfl (lv_room (Nat.le_of_ble_eq_true rfl)) dX7_ticksIn_3 ⟨Nat.le_of_ble_eq_true rfl, Nat.le_of_ble_eq_true rfl⟩) ?_
  refine zb_fne (tgt := 19) hx hb dX7_ticksIn_6 (by decide) (fun c_1 => ?_) (fun c_1 => ?_)
  · skip
    refine lv_aload_n hx hb dX7_ticksIn_19 rfl (lv_at hl 0 rfl) ?_
    refine va_get (D := (dC, dI)) (ci := 7) (v := .ref (q 22)) (C := RX7) (T := TX7) (N := 13) hx hb hts hinX7 hown hK.1 hP 0 rfl rfl 6 (by decide) (hts _ (List.mem_of_getElem? (i := 3) rfl)) (fun _ h9 => h9) rfl dX7_ticksIn_20 ?_
    refine va_getN (D := (dC, dI)) (ci := 4) (v := .ref (q 23)) (C := RX4) (T := TX4) (N := 6) (host := "SleepPlanner") hx hb hts hinX4 hown hK.1 hP 22 rfl rfl 0 (by decide) (va_Nw.use rfl (hK.2.1 _ (List.mem_of_getElem? (i := 1) rfl))) (fun _ h9 => h9) rfl dX7_ticksIn_23 ?_
    refine lv_iload_n hx hb dX7_ticksIn_26 rfl (lv_at hl 1 rfl) ?_
    refine zc_pi (va_runS (As := [.ref (q 23), .int (iI x1)]) (rest := []) ⟨hx, hb, hml, hown, hts⟩ (kX7_read l dC dI cI cJ cZ (q 23) 4 tin x1 (by first | assumption | omega | exact b2i_01 _) (by first | assumption | omega | exact b2i_01 _)) (va_cwS 2 hts gX7_ticksIn_X7_read rfl rfl rfl (by decide +kernel) ⟨Nat.le_of_ble_eq_true rfl, Nat.le_of_ble_eq_true rfl⟩) (zqS hK hP [23] rfl) rfl rfl hl.1 rfl (lv_room (Nat.le_of_ble_eq_true rfl)) dX7_ticksIn_27 ⟨Nat.le_of_ble_eq_true rfl, Nat.le_of_ble_eq_true rfl⟩) ?_
    subst hQ
    exact zret_i (W1 := fun _ : Unit => wP cI cJ cZ q pw co la vo cpar fr cdee use run nC tdue tlat twk nT edue elat ewk nE len cnt tin sp pe slp late srv hv av bd sh sc lt rule now st asl idl idn par div dee) () hx hb hr hP hD hS hlocks dX7_ticksIn_30 (by exact rdZ_i (by omega))
  · skip
    exfalso; omega
def rmX7_setHarvest_ok : Room := { frames := 6, cells := 0, slots := 0, locals := 90 }
set_option maxRecDepth 100000 in
set_option maxHeartbeats 4000000 in
theorem kX7_setHarvest_ok (l : Launch) (dC : Nat → ClassId) (dI : Nat → Nat → Nat) (cI cJ cZ : ClassId) (q : Nat → Nat)  (pw : Int → Int) (co : Int → Int) (la : Int → Int) (vo : Int → Int) (cpar : Int → Int) (fr : Int → Int) (cdee : Int → Int) (use : Int → Int) (run : Int → Int) (nC : Int) (tdue : Int → Int) (tlat : Int → Int) (twk : Int → Int) (nT : Int) (edue : Int → Int) (elat : Int → Int) (ewk : Int → Int) (nE : Int) (len : Int → Int) (cnt : Int) (tin : Int → Int) (sp : Int) (pe : Int) (slp : Int) (late : Int) (srv : Int) (hv : Int → Int) (av : Int) (bd : Int) (sh : Int) (sc : Int → Int) (lt : Int → Int) (rule : Int) (now : Int) (st : Int) (asl : Int) (idl : Int → Int) (idn : Int) (par : Int → Int) (div : Int → Int) (dee : Int → Int) (x1 x2 : Int) (hx1 : zR x1) (hx2 : zR x2) (hok : (0 ≤ x1 ∧ x1 ≤ 23) ∧ (0 ≤ x2 ∧ x2 ≤ 1000)) : zMi l yX7_setHarvest wsX7_setHarvest rmX7_setHarvest_ok (dC, dI) (zT cI cJ cZ) (wP cI cJ cZ q pw co la vo cpar fr cdee use run nC tdue tlat twk nT edue elat ewk nE len cnt tin sp pe slp late srv hv av bd sh sc lt rule now st asl idl idn par div dee) [.ref (q 0), .int (iI x1), .int (iI x2)] (fun (r9 : Int) (_ : Unit) => r9 = hv x1) (fun _ : Unit => wP cI cJ cZ q pw co la vo cpar fr cdee use run nC tdue tlat twk nT edue elat ewk nE len cnt tin sp pe slp late srv (uZ hv x1 x2) av bd sh sc lt rule now st asl idl idn par div dee) 0 0 := by
  refine zent_i (cc := cX7_setHarvest) (maxL := 3) (ret := (some .int)) (by decide +kernel) rfl (Nat.le_of_ble_eq_true rfl) ?_
  intro p e s m below meth c A ls hE hP hK hA hD hS hl
  obtain ⟨hx, hb, hr, hml, hown, hts, hlocks, hmn⟩ := hE
  have hinX7 : ∀ w ∈ u_ws RX7 TX7 13, w ∈ wsX7_setHarvest := by decide +kernel
  have hinX0 : ∀ w ∈ u_ws RX0 TX0 4, w ∈ wsX7_setHarvest := by decide +kernel
  have hl : lv_has ls 3 [(0, .ref (q 0)), (1, .int (iI x1)), (2, .int (iI x2))] := hl
  refine z_gen (fun Q hQ => ?_)
  refine lv_iload_n hx hb dX7_setHarvest_0 rfl (lv_at hl 1 rfl) ?_
  refine lv_iconst (v := iI 0) hx hb dX7_setHarvest_1 rfl ?_
  refine lv_bipush (v := iI 23) hx hb dX7_setHarvest_2 (by decide) ?_
  refine zc_pi (va_runS (As := [.int (iI x1), .int (iI 0), .int (iI 23)]) (rest := []) ⟨hx, hb, hml, hown, hts⟩ (kX7_isWithin l dC dI cI cJ cZ x1 0 23 (by first | assumption | omega | exact b2i_01 _) (by first | assumption | omega | exact b2i_01 _) (by first | assumption | omega | exact b2i_01 _)) (va_cwS 3 hts gX7_setHarvest_X7_isWithin rfl rfl rfl (by decide +kernel) ⟨Nat.le_of_ble_eq_true rfl, Nat.le_of_ble_eq_true rfl⟩) (zqS hK hP [] rfl) rfl rfl hl.1 rfl (lv_room (Nat.le_of_ble_eq_true rfl)) dX7_setHarvest_4 ⟨Nat.le_of_ble_eq_true rfl, Nat.le_of_ble_eq_true rfl⟩) ?_
  refine zb_feq (tgt := 21) hx hb dX7_setHarvest_7 (by decide) (fun c_1 => ?_) (fun c_1 => ?_)
  · skip
    exfalso; omega
  · skip
    refine lv_iload_n hx hb dX7_setHarvest_10 rfl (lv_at hl 2 rfl) ?_
    refine lv_iconst (v := iI 0) hx hb dX7_setHarvest_11 rfl ?_
    refine lv_sipush (v := iI 1000) hx hb dX7_setHarvest_12 (by decide) ?_
    refine zc_pi (va_runS (As := [.int (iI x2), .int (iI 0), .int (iI 1000)]) (rest := []) ⟨hx, hb, hml, hown, hts⟩ (kX7_isWithin l dC dI cI cJ cZ x2 0 1000 (by first | assumption | omega | exact b2i_01 _) (by first | assumption | omega | exact b2i_01 _) (by first | assumption | omega | exact b2i_01 _)) (va_cwS 3 hts gX7_setHarvest_X7_isWithin rfl rfl rfl (by decide +kernel) ⟨Nat.le_of_ble_eq_true rfl, Nat.le_of_ble_eq_true rfl⟩) (zqS hK hP [] rfl) rfl rfl hl.1 rfl (lv_room (Nat.le_of_ble_eq_true rfl)) dX7_setHarvest_15 ⟨Nat.le_of_ble_eq_true rfl, Nat.le_of_ble_eq_true rfl⟩) ?_
    refine zb_fne (tgt := 31) hx hb dX7_setHarvest_18 (by decide) (fun c_2 => ?_) (fun c_2 => ?_)
    · skip
      refine lv_aload_n hx hb dX7_setHarvest_31 rfl (lv_at hl 0 rfl) ?_
      refine va_get (D := (dC, dI)) (ci := 7) (v := .ref (q 24)) (C := RX7) (T := TX7) (N := 13) hx hb hts hinX7 hown hK.1 hP 0 rfl rfl 7 (by decide) (hts _ (List.mem_of_getElem? (i := 3) rfl)) (fun _ h9 => h9) rfl dX7_setHarvest_32 ?_
      refine va_getN (D := (dC, dI)) (ci := 0) (v := .ref (q 25)) (C := RX0) (T := TX0) (N := 4) (host := "SleepPlanner") hx hb hts hinX0 hown hK.1 hP 24 rfl rfl 0 (by decide) (va_Nw.use rfl (hK.2.1 _ (List.mem_of_getElem? (i := 5) rfl))) (fun _ h9 => h9) rfl dX7_setHarvest_35 ?_
      refine lv_iload_n hx hb dX7_setHarvest_38 rfl (lv_at hl 1 rfl) ?_
      refine lv_iload_n hx hb dX7_setHarvest_39 rfl (lv_at hl 2 rfl) ?_
      refine zc_i (va_runS (As := [.ref (q 25), .int (iI x1), .int (iI x2)]) (rest := []) ⟨hx, hb, hml, hown, hts⟩ (kX7_exchange l dC dI cI cJ cZ (q 25) 24 hv x1 x2 (by first | assumption | omega | exact b2i_01 _) (by first | assumption | omega | exact b2i_01 _) s.heap.size) (va_cwS 3 hts gX7_setHarvest_X7_exchange rfl rfl rfl (by decide +kernel) ⟨Nat.le_of_ble_eq_true rfl, Nat.le_of_ble_eq_true rfl⟩) (zpS hK hP hD [25] rfl rfl) rfl rfl hl.1 rfl (lv_room (Nat.le_of_ble_eq_true rfl)) dX7_setHarvest_40 ⟨Nat.le_of_ble_eq_true rfl, Nat.le_of_ble_eq_true rfl⟩) hP hD hS hA [25] [0, 1, 2, 3, 4, 5, 6, 7, 8, 9, 10, 11, 12, 13, 14, 15, 16, 17, 18, 19, 20, 21, 22, 23, 24, 26, 27, 28] rfl rfl rfl (by decide) (fun v_5 u_4 H locs r_3 hP hD hS => ?_)
      refine ze_i r_3 ?_
      have hP : va_P (dC, dI) vwCl (wP cI cJ cZ q pw co la vo cpar fr cdee use run nC tdue tlat twk nT edue elat ewk nE len cnt tin sp pe slp late srv (exZ hv 24 x1 x2) av bd sh sc lt rule now st asl idl idn par div dee) H := hP.sub [0, 1, 2, 3, 4, 5, 6, 7, 8, 9, 10, 11, 12, 13, 14, 15, 16, 17, 18, 19, 20, 21, 22, 23, 24, 28, 25, 26, 27] (z_fm rfl)
      have hD : va_D A (wP cI cJ cZ q pw co la vo cpar fr cdee use run nC tdue tlat twk nT edue elat ewk nE len cnt tin sp pe slp late srv (exZ hv 24 x1 x2) av bd sh sc lt rule now st asl idl idn par div dee) := hD.sub [0, 1, 2, 3, 4, 5, 6, 7, 8, 9, 10, 11, 12, 13, 14, 15, 16, 17, 18, 19, 20, 21, 22, 23, 24, 28, 25, 26, 27] (by decide) rfl
      subst hQ
      have w_6 : (uZ hv x1 x2) = (exZ hv 24 x1 x2) := by exact (exZ_i (by omega)).symm
      have hP : va_P (dC, dI) vwCl (wP cI cJ cZ q pw co la vo cpar fr cdee use run nC tdue tlat twk nT edue elat ewk nE len cnt tin sp pe slp late srv (uZ hv x1 x2) av bd sh sc lt rule now st asl idl idn par div dee) H := by rw [w_6]; exact hP
      have hD : va_D A (wP cI cJ cZ q pw co la vo cpar fr cdee use run nC tdue tlat twk nT edue elat ewk nE len cnt tin sp pe slp late srv (uZ hv x1 x2) av bd sh sc lt rule now st asl idl idn par div dee) := by rw [w_6]; exact hD
      exact zret_i (W1 := fun _ : Unit => wP cI cJ cZ q pw co la vo cpar fr cdee use run nC tdue tlat twk nT edue elat ewk nE len cnt tin sp pe slp late srv (uZ hv x1 x2) av bd sh sc lt rule now st asl idl idn par div dee) () hx hb hr hP hD hS hlocks dX7_setHarvest_43 (by exact rdZ_i (by omega))
    · skip
      exfalso; omega
def rmX7_plannedCost_ok : Room := { frames := 6, cells := 0, slots := 0, locals := 142 }
set_option maxRecDepth 100000 in
set_option maxHeartbeats 4000000 in
theorem kX7_plannedCost_ok (l : Launch) (dC : Nat → ClassId) (dI : Nat → Nat → Nat) (cI cJ cZ : ClassId) (q : Nat → Nat)  (pw : Int → Int) (co : Int → Int) (la : Int → Int) (vo : Int → Int) (cpar : Int → Int) (fr : Int → Int) (cdee : Int → Int) (use : Int → Int) (run : Int → Int) (nC : Int) (tdue : Int → Int) (tlat : Int → Int) (twk : Int → Int) (nT : Int) (edue : Int → Int) (elat : Int → Int) (ewk : Int → Int) (nE : Int) (len : Int → Int) (cnt : Int) (tin : Int → Int) (sp : Int) (pe : Int) (slp : Int) (late : Int) (srv : Int) (hv : Int → Int) (av : Int) (bd : Int) (sh : Int) (sc : Int → Int) (lt : Int → Int) (rule : Int) (now : Int) (st : Int) (asl : Int) (idl : Int → Int) (idn : Int) (par : Int → Int) (div : Int → Int) (dee : Int → Int) (x1 : Int) (hx1 : zR x1) (hnT : 0 ≤ nT ∧ nT ≤ 12) (htd : rgZ tdue 12 1000000) (htl : rgZ tlat 12 1000000) (htw : rgZ twk 12 50) (hnow : 0 ≤ now ∧ now ≤ 200000) (htdl : ∀ k : Int, 0 ≤ k → k < nT → tdue k ≤ tlat k) (htnl : ∀ k : Int, 0 ≤ k → k < nT → now ≤ tlat k) (hnC : 1 ≤ nC ∧ nC ≤ 8) (hcp : ∀ c : Int, 1 ≤ c → c < nC → 0 ≤ cpar c ∧ cpar c < c) (huse : rgZ use 8 9) (hrun : tfZ run) (hcd : rgZ cdee 8 3) (hvo : rgZ vo 6 3) (hpp : ∀ c : Int, 1 ≤ c → c < nC → par c = cpar c) (hdd : ∀ c : Int, 1 ≤ c → c < nC → dee c = cdee c) (hd0 : cdee 0 = 3) (hde : rgZ dee 8 3) (hl0 : la 0 = 0) (hpw : rgZ pw 4 1000) (hco : rgZ co 4 10000) (hla : rgZ la 4 100) (hok : now ≤ x1 ∧ x1 ≤ now + 400) : zMl l yX7_plannedCost wsX7_plannedCost rmX7_plannedCost_ok (dC, dI) (zT cI cJ cZ) (wP cI cJ cZ q pw co la vo cpar fr cdee use run nC tdue tlat twk nT edue elat ewk nE len cnt tin sp pe slp late srv hv av bd sh sc lt rule now st asl idl idn par div dee) [.ref (q 0), .int (iI x1)] (fun (r9 : Int) (_ : Unit) => r9 = plN (pcZ pw co la (dzM vo par dee use nC)) tdue tlat x1 nT (x1 + 1).toNat now (-1)) (fun _ : Unit => wP cI cJ cZ q pw co la vo cpar fr cdee use (rnZ cpar (nC - 1) (r0Z use nC run)) nC tdue tlat twk nT edue elat ewk nE len cnt tin sp pe slp late srv hv av bd sh sc lt rule now st asl idl idn par div dee) 0 0 := by
  refine zent_l (cc := cX7_plannedCost) (maxL := 2) (ret := (some .long)) (by decide +kernel) rfl (Nat.le_of_ble_eq_true rfl) ?_
  intro p e s m below meth c A ls hE hP hK hA hD hS hl
  obtain ⟨hx, hb, hr, hml, hown, hts, hlocks, hmn⟩ := hE
  have hinX7 : ∀ w ∈ u_ws RX7 TX7 13, w ∈ wsX7_plannedCost := by decide +kernel
  have hinX1 : ∀ w ∈ u_ws RX1 TX1 6, w ∈ wsX7_plannedCost := by decide +kernel
  have hinX3 : ∀ w ∈ u_ws RX3 TX3 4, w ∈ wsX7_plannedCost := by decide +kernel
  have hinX6 : ∀ w ∈ u_ws RX6 TX6 3, w ∈ wsX7_plannedCost := by decide +kernel
  have hl : lv_has ls 2 [(0, .ref (q 0)), (1, .int (iI x1))] := hl
  refine z_gen (fun Q hQ => ?_)
  have hdz := dzM_r (par := par) (use := use) hvo hde hnC
  refine lv_iload_n hx hb dX7_plannedCost_0 rfl (lv_at hl 1 rfl) ?_
  refine lv_aload_n hx hb dX7_plannedCost_1 rfl (lv_at hl 0 rfl) ?_
  refine va_get (D := (dC, dI)) (ci := 7) (v := .int (iI now)) (C := RX7) (T := TX7) (N := 13) hx hb hts hinX7 hown hK.1 hP 0 rfl rfl 10 (by decide) (hts _ (List.mem_of_getElem? (i := 3) rfl)) (fun _ h9 => h9) rfl dX7_plannedCost_2 ?_
  refine lv_aload_n hx hb dX7_plannedCost_5 rfl (lv_at hl 0 rfl) ?_
  refine va_get (D := (dC, dI)) (ci := 7) (v := .int (iI now)) (C := RX7) (T := TX7) (N := 13) hx hb hts hinX7 hown hK.1 hP 0 rfl rfl 10 (by decide) (hts _ (List.mem_of_getElem? (i := 3) rfl)) (fun _ h9 => h9) rfl dX7_plannedCost_6 ?_
  refine lv_sipush (v := iI 400) hx hb dX7_plannedCost_9 (by decide) ?_
  refine zi_add hx hb dX7_plannedCost_12 ?_
  refine zc_pi (va_runS (As := [.int (iI x1), .int (iI now), .int (iI (now + 400))]) (rest := []) ⟨hx, hb, hml, hown, hts⟩ (kX7_isWithin l dC dI cI cJ cZ x1 now (now + 400) (by first | assumption | omega | exact b2i_01 _) (by first | assumption | omega | exact b2i_01 _) (by first | assumption | omega | exact b2i_01 _)) (va_cwS 3 hts gX7_plannedCost_X7_isWithin rfl rfl rfl (by decide +kernel) ⟨Nat.le_of_ble_eq_true rfl, Nat.le_of_ble_eq_true rfl⟩) (zqS hK hP [] rfl) rfl rfl hl.1 rfl (lv_room (Nat.le_of_ble_eq_true rfl)) dX7_plannedCost_13 ⟨Nat.le_of_ble_eq_true rfl, Nat.le_of_ble_eq_true rfl⟩) ?_
  refine zb_fne (tgt := 29) hx hb dX7_plannedCost_16 (by decide) (fun c_1 => ?_) (fun c_1 => ?_)
  · skip
    refine lv_aload_n hx hb dX7_plannedCost_29 rfl (lv_at hl 0 rfl) ?_
    refine va_get (D := (dC, dI)) (ci := 7) (v := .ref (q 26)) (C := RX7) (T := TX7) (N := 13) hx hb hts hinX7 hown hK.1 hP 0 rfl rfl 8 (by decide) (hts _ (List.mem_of_getElem? (i := 4) rfl)) (fun _ h9 => h9) rfl dX7_plannedCost_30 ?_
    refine lv_aload_n hx hb dX7_plannedCost_33 rfl (lv_at hl 0 rfl) ?_
    refine va_get (D := (dC, dI)) (ci := 7) (v := .ref (q 12)) (C := RX7) (T := TX7) (N := 13) hx hb hts hinX7 hown hK.1 hP 0 rfl rfl 3 (by decide) (hts _ (List.mem_of_getElem? (i := 5) rfl)) (fun _ h9 => h9) rfl dX7_plannedCost_34 ?_
    refine lv_aload_n hx hb dX7_plannedCost_37 rfl (lv_at hl 0 rfl) ?_
    refine va_get (D := (dC, dI)) (ci := 7) (v := .int (iI now)) (C := RX7) (T := TX7) (N := 13) hx hb hts hinX7 hown hK.1 hP 0 rfl rfl 10 (by decide) (hts _ (List.mem_of_getElem? (i := 3) rfl)) (fun _ h9 => h9) rfl dX7_plannedCost_38 ?_
    refine lv_iload_n hx hb dX7_plannedCost_41 rfl (lv_at hl 1 rfl) ?_
    refine lv_aload_n hx hb dX7_plannedCost_42 rfl (lv_at hl 0 rfl) ?_
    refine va_get (D := (dC, dI)) (ci := 7) (v := .ref (q 1)) (C := RX7) (T := TX7) (N := 13) hx hb hts hinX7 hown hK.1 hP 0 rfl rfl 0 (by decide) (hts _ (List.mem_of_getElem? (i := 6) rfl)) (fun _ h9 => h9) rfl dX7_plannedCost_43 ?_
    refine lv_aload_n hx hb dX7_plannedCost_46 rfl (lv_at hl 0 rfl) ?_
    refine zc_i (va_runV (As := []) (rest := [.ref (q 1), .int (iI x1), .int (iI now), .ref (q 12), .ref (q 26)]) ⟨hx, hb, hml, hown, hts⟩ (kX7_depth l dC dI cI cJ cZ q pw co la vo cpar fr cdee use run nC tdue tlat twk nT edue elat ewk nE len cnt tin sp pe slp late srv hv av bd sh sc lt rule now st asl idl idn par div dee (by first | assumption | omega | exact b2i_01 _) (by first | assumption | omega | exact b2i_01 _) (by first | assumption | omega | exact b2i_01 _) (by first | assumption | omega | exact b2i_01 _) (by first | assumption | omega | exact b2i_01 _) (by first | assumption | omega | exact b2i_01 _) (by first | assumption | omega | exact b2i_01 _) (by first | assumption | omega | exact b2i_01 _) (by first | assumption | omega | exact b2i_01 _) s.heap.size) (cwV 0 hts gX7_plannedCost_X7_depth rfl rfl rfl (by decide +kernel) ⟨Nat.le_of_ble_eq_true rfl, Nat.le_of_ble_eq_true rfl⟩) (zpV hK hP hD [0, 1, 2, 3, 4, 5, 6, 7, 8, 9, 10, 11, 12, 13, 14, 15, 16, 17, 18, 19, 20, 21, 22, 23, 24, 25, 26, 27, 28] rfl rfl 0 rfl rfl) rfl rfl hl.1 rfl (lv_room (Nat.le_of_ble_eq_true rfl)) dX7_plannedCost_47 ⟨Nat.le_of_ble_eq_true rfl, Nat.le_of_ble_eq_true rfl⟩) hP hD hS hA [0, 1, 2, 3, 4, 5, 6, 7, 8, 9, 10, 11, 12, 13, 14, 15, 16, 17, 18, 19, 20, 21, 22, 23, 24, 25, 26, 27, 28] [] rfl rfl rfl (by decide) (fun v_4 u_3 H locs r_2 hP hD hS => ?_)
    refine ze_i r_2 ?_
    have hP : va_P (dC, dI) vwCl (wP cI cJ cZ q pw co la vo cpar fr cdee use (rnZ cpar (nC - 1) (r0Z use nC run)) nC tdue tlat twk nT edue elat ewk nE len cnt tin sp pe slp late srv hv av bd sh sc lt rule now st asl idl idn par div dee) H := hP
    have hD : va_D A (wP cI cJ cZ q pw co la vo cpar fr cdee use (rnZ cpar (nC - 1) (r0Z use nC run)) nC tdue tlat twk nT edue elat ewk nE len cnt tin sp pe slp late srv hv av bd sh sc lt rule now st asl idl idn par div dee) := hD
    refine zc_pl (va_runV (As := [.ref (q 12), .int (iI now), .int (iI x1), .ref (q 1), .int (iI (dzM vo par dee use nC))]) (rest := []) ⟨hx, hb, hml, hown, hts⟩ (kX5_sumPlanned l dC dI cI cJ cZ (q 26) (q 27) (q 28) (q 12) (q 13) (q 14) (q 15) (q 1) (q 2) (q 3) (q 4) sc lt tdue tlat twk nT pw co la now x1 (dzM vo par dee use nC) (by first | assumption | omega | exact b2i_01 _) (by first | assumption | omega | exact b2i_01 _) (by first | assumption | omega | exact b2i_01 _) (by first | assumption | omega | exact b2i_01 _) (by first | assumption | omega | exact b2i_01 _) (by first | assumption | omega | exact b2i_01 _) (by first | assumption | omega | exact b2i_01 _) (by first | assumption | omega | exact b2i_01 _) (by first | assumption | omega | exact b2i_01 _) (by first | assumption | omega | exact b2i_01 _) (by first | assumption | omega | exact b2i_01 _) (by first | assumption | omega | exact b2i_01 _) (by first | assumption | omega | exact b2i_01 _)) (cwV 5 hts gX7_plannedCost_X5_sumPlanned rfl rfl rfl (by decide +kernel) ⟨Nat.le_of_ble_eq_true rfl, Nat.le_of_ble_eq_true rfl⟩) (zqV hK hP [26, 27, 28, 12, 13, 14, 15, 1, 2, 3, 4] rfl 26 rfl rfl) rfl rfl hl.1 rfl (lv_room (Nat.le_of_ble_eq_true rfl)) dX7_plannedCost_50 ⟨Nat.le_of_ble_eq_true rfl, Nat.le_of_ble_eq_true rfl⟩) ?_
    subst hQ
    exact zret_l (W1 := fun _ : Unit => wP cI cJ cZ q pw co la vo cpar fr cdee use (rnZ cpar (nC - 1) (r0Z use nC run)) nC tdue tlat twk nT edue elat ewk nE len cnt tin sp pe slp late srv hv av bd sh sc lt rule now st asl idl idn par div dee) () hx hb hr hP hD hS hlocks dX7_plannedCost_53 (by exact rfl)
  · skip
    exfalso; omega
def rmX7_play_ok : Room := { frames := 6, cells := 0, slots := 0, locals := 130 }
set_option maxRecDepth 100000 in
set_option maxHeartbeats 4000000 in
theorem kX7_play_ok (l : Launch) (dC : Nat → ClassId) (dI : Nat → Nat → Nat) (cI cJ cZ : ClassId) (q : Nat → Nat)  (pw : Int → Int) (co : Int → Int) (la : Int → Int) (vo : Int → Int) (cpar : Int → Int) (fr : Int → Int) (cdee : Int → Int) (use : Int → Int) (run : Int → Int) (nC : Int) (tdue : Int → Int) (tlat : Int → Int) (twk : Int → Int) (nT : Int) (edue : Int → Int) (elat : Int → Int) (ewk : Int → Int) (nE : Int) (len : Int → Int) (cnt : Int) (tin : Int → Int) (sp : Int) (pe : Int) (slp : Int) (late : Int) (srv : Int) (hv : Int → Int) (av : Int) (bd : Int) (sh : Int) (sc : Int → Int) (lt : Int → Int) (rule : Int) (now : Int) (st : Int) (asl : Int) (idl : Int → Int) (idn : Int) (par : Int → Int) (div : Int → Int) (dee : Int → Int) (x1 : Int) (hx1 : zR x1) (hnC : 1 ≤ nC ∧ nC ≤ 8) (hcp : ∀ c : Int, 1 ≤ c → c < nC → 0 ≤ cpar c ∧ cpar c < c) (huse : rgZ use 8 9) (hrun : tfZ run) (hcd : rgZ cdee 8 3) (hvo : rgZ vo 6 3) (hpp : ∀ c : Int, 1 ≤ c → c < nC → par c = cpar c) (hdd : ∀ c : Int, 1 ≤ c → c < nC → dee c = cdee c) (hd0 : cdee 0 = 3) (hde : rgZ dee 8 3) (hrl : 0 ≤ rule ∧ rule ≤ 2) (hpw : rgZ pw 4 1000) (hco : rgZ co 4 10000) (hla : rgZ la 4 100) (hhv : rgZ hv 24 1000) (hid : idR len cnt idl idn) (hel : rgZ elat 12 1000000) (htk : ∃ K : Int, K ≤ 190000 ∧ tiB K st asl now nT tdue tlat twk nE edue ewk sp pe tin slp late srv av bd sh idl idn) (hok : 1 ≤ x1 ∧ x1 ≤ 200) : zMi l yX7_play wsX7_play rmX7_play_ok (dC, dI) (zT cI cJ cZ) (wP cI cJ cZ q pw co la vo cpar fr cdee use run nC tdue tlat twk nT edue elat ewk nE len cnt tin sp pe slp late srv hv av bd sh sc lt rule now st asl idl idn par div dee) [.ref (q 0), .int (iI x1)] (fun (r9 : Int) (u9 : Int × Int × Int × Int × (Int → Int) × (Int → Int) × (Int → Int) × Int × (Int → Int) × (Int → Int) × Int × Int × (Int → Int) × Int × Int × Int × Int × Int × Int × (Int → Int) × Int × (Int → Int) × Int × (Int → Int) × (Int → Int)) => r9 = (u9.2.2.1) ∧ (((u9.1), (u9.2.1), (u9.2.2.1), (u9.2.2.2.1), (u9.2.2.2.2.1), (u9.2.2.2.2.2.1), (u9.2.2.2.2.2.2.1), (u9.2.2.2.2.2.2.2.1), (u9.2.2.2.2.2.2.2.2.1), (u9.2.2.2.2.2.2.2.2.2.1), (u9.2.2.2.2.2.2.2.2.2.2.1), (u9.2.2.2.2.2.2.2.2.2.2.2.1), (u9.2.2.2.2.2.2.2.2.2.2.2.2.1), (u9.2.2.2.2.2.2.2.2.2.2.2.2.2.1), (u9.2.2.2.2.2.2.2.2.2.2.2.2.2.2.1), (u9.2.2.2.2.2.2.2.2.2.2.2.2.2.2.2.1), (u9.2.2.2.2.2.2.2.2.2.2.2.2.2.2.2.2.1), (u9.2.2.2.2.2.2.2.2.2.2.2.2.2.2.2.2.2.1), (u9.2.2.2.2.2.2.2.2.2.2.2.2.2.2.2.2.2.2.1), (u9.2.2.2.2.2.2.2.2.2.2.2.2.2.2.2.2.2.2.2.1), (u9.2.2.2.2.2.2.2.2.2.2.2.2.2.2.2.2.2.2.2.2.1)) = itT pw co la hv rule (dzM vo par dee use nC) x1.toNat (st, asl, now, nT, tdue, tlat, twk, nE, edue, ewk, sp, pe, tin, slp, late, srv, av, bd, sh, idl, idn) ∧ idR (u9.2.2.2.2.2.2.2.2.2.2.2.2.2.2.2.2.2.2.2.2.2.1) (u9.2.2.2.2.2.2.2.2.2.2.2.2.2.2.2.2.2.2.2.2.2.2.1) (u9.2.2.2.2.2.2.2.2.2.2.2.2.2.2.2.2.2.2.2.1) (u9.2.2.2.2.2.2.2.2.2.2.2.2.2.2.2.2.2.2.2.2.1) ∧ rgZ (u9.2.2.2.2.2.2.2.2.2.2.2.2.2.2.2.2.2.2.2.2.2.2.2.1) 12 1000000 ∧ tfZ (u9.2.2.2.2.2.2.2.2.2.2.2.2.2.2.2.2.2.2.2.2.2.2.2.2))) (fun u9 : Int × Int × Int × Int × (Int → Int) × (Int → Int) × (Int → Int) × Int × (Int → Int) × (Int → Int) × Int × Int × (Int → Int) × Int × Int × Int × Int × Int × Int × (Int → Int) × Int × (Int → Int) × Int × (Int → Int) × (Int → Int) => wP cI cJ cZ q pw co la vo cpar fr cdee use (u9.2.2.2.2.2.2.2.2.2.2.2.2.2.2.2.2.2.2.2.2.2.2.2.2) nC (u9.2.2.2.2.1) (u9.2.2.2.2.2.1) (u9.2.2.2.2.2.2.1) (u9.2.2.2.1) (u9.2.2.2.2.2.2.2.2.1) (u9.2.2.2.2.2.2.2.2.2.2.2.2.2.2.2.2.2.2.2.2.2.2.2.1) (u9.2.2.2.2.2.2.2.2.2.1) (u9.2.2.2.2.2.2.2.1) (u9.2.2.2.2.2.2.2.2.2.2.2.2.2.2.2.2.2.2.2.2.2.1) (u9.2.2.2.2.2.2.2.2.2.2.2.2.2.2.2.2.2.2.2.2.2.2.1) (u9.2.2.2.2.2.2.2.2.2.2.2.2.1) (u9.2.2.2.2.2.2.2.2.2.2.1) (u9.2.2.2.2.2.2.2.2.2.2.2.1) (u9.2.2.2.2.2.2.2.2.2.2.2.2.2.1) (u9.2.2.2.2.2.2.2.2.2.2.2.2.2.2.1) (u9.2.2.2.2.2.2.2.2.2.2.2.2.2.2.2.1) hv (u9.2.2.2.2.2.2.2.2.2.2.2.2.2.2.2.2.1) (u9.2.2.2.2.2.2.2.2.2.2.2.2.2.2.2.2.2.1) (u9.2.2.2.2.2.2.2.2.2.2.2.2.2.2.2.2.2.2.1) sc lt rule (u9.2.2.1) (u9.1) (u9.2.1) (u9.2.2.2.2.2.2.2.2.2.2.2.2.2.2.2.2.2.2.2.1) (u9.2.2.2.2.2.2.2.2.2.2.2.2.2.2.2.2.2.2.2.2.1) par div dee) 0 0 := by
  refine zent_i (cc := cX7_play) (maxL := 3) (ret := (some .int)) (by decide +kernel) rfl (Nat.le_of_ble_eq_true rfl) ?_
  intro p e s m below meth c A ls hE hP hK hA hD hS hl
  obtain ⟨hx, hb, hr, hml, hown, hts, hlocks, hmn⟩ := hE
  have hinX7 : ∀ w ∈ u_ws RX7 TX7 13, w ∈ wsX7_play := by decide +kernel
  have hinX4 : ∀ w ∈ u_ws RX4 TX4 6, w ∈ wsX7_play := by decide +kernel
  have hinX3 : ∀ w ∈ u_ws RX3 TX3 4, w ∈ wsX7_play := by decide +kernel
  have hinX6 : ∀ w ∈ u_ws RX6 TX6 3, w ∈ wsX7_play := by decide +kernel
  have hinX2 : ∀ w ∈ u_ws RX2 TX2 2, w ∈ wsX7_play := by decide +kernel
  have hinX1 : ∀ w ∈ u_ws RX1 TX1 6, w ∈ wsX7_play := by decide +kernel
  have hinX0 : ∀ w ∈ u_ws RX0 TX0 4, w ∈ wsX7_play := by decide +kernel
  have hl : lv_has ls 3 [(0, .ref (q 0)), (1, .int (iI x1))] := hl
  refine z_gen (fun Q hQ => ?_)
  obtain ⟨K9, hK9, hti⟩ := htk
  have hdz := dzM_r (par := par) (use := use) hvo hde hnC
  refine lv_iload_n hx hb dX7_play_0 rfl (lv_at hl 1 rfl) ?_
  refine lv_iconst (v := iI 1) hx hb dX7_play_1 rfl ?_
  refine lv_sipush (v := iI 200) hx hb dX7_play_2 (by decide) ?_
  refine zc_pi (va_runS (As := [.int (iI x1), .int (iI 1), .int (iI 200)]) (rest := []) ⟨hx, hb, hml, hown, hts⟩ (kX7_isWithin l dC dI cI cJ cZ x1 1 200 (by first | assumption | omega | exact b2i_01 _) (by first | assumption | omega | exact b2i_01 _) (by first | assumption | omega | exact b2i_01 _)) (va_cwS 3 hts gX7_play_X7_isWithin rfl rfl rfl (by decide +kernel) ⟨Nat.le_of_ble_eq_true rfl, Nat.le_of_ble_eq_true rfl⟩) (zqS hK hP [] rfl) rfl rfl hl.1 rfl (lv_room (Nat.le_of_ble_eq_true rfl)) dX7_play_5 ⟨Nat.le_of_ble_eq_true rfl, Nat.le_of_ble_eq_true rfl⟩) ?_
  refine zb_fne (tgt := 21) hx hb dX7_play_8 (by decide) (fun c_1 => ?_) (fun c_1 => ?_)
  · skip
    refine lv_iconst (v := iI 0) hx hb dX7_play_21 rfl ?_
    refine lv_istore_n (lv' := [(2, .int (iI 0)), (0, .ref (q 0)), (1, .int (iI x1))]) hx hb dX7_play_22 rfl hl (by decide) rfl (fun ls hl => ?_)
    have L23 : ∀ (fuel : Nat) (k : Int) (st3 : Int) (asl3 : Int) (now3 : Int) (nT3 : Int) (tdue3 : Int → Int) (tlat3 : Int → Int) (twk3 : Int → Int) (nE3 : Int) (edue3 : Int → Int) (ewk3 : Int → Int) (sp3 : Int) (pe3 : Int) (tin3 : Int → Int) (slp3 : Int) (late3 : Int) (srv3 : Int) (av3 : Int) (bd3 : Int) (sh3 : Int) (idl3 : Int → Int) (idn3 : Int) (len3 : Int → Int) (cnt3 : Int) (elat3 : Int → Int) (run3 : Int → Int), (0 ≤ k ∧ k ≤ x1) → ((st3, asl3, now3, nT3, tdue3, tlat3, twk3, nE3, edue3, ewk3, sp3, pe3, tin3, slp3, late3, srv3, av3, bd3, sh3, idl3, idn3) = itT pw co la hv rule (dzM vo par dee use nC) k.toNat (st, asl, now, nT, tdue, tlat, twk, nE, edue, ewk, sp, pe, tin, slp, late, srv, av, bd, sh, idl, idn)) → (tiB (K9 + k) st3 asl3 now3 nT3 tdue3 tlat3 twk3 nE3 edue3 ewk3 sp3 pe3 tin3 slp3 late3 srv3 av3 bd3 sh3 idl3 idn3) → (idR len3 cnt3 idl3 idn3) → (rgZ elat3 12 1000000) → (tfZ run3) → ((x1 - k).toNat) < fuel → ∀ (H : Heap) (locs : List Loc), va_P (dC, dI) vwCl (wP cI cJ cZ q pw co la vo cpar fr cdee use run3 nC tdue3 tlat3 twk3 nT3 edue3 elat3 ewk3 nE3 len3 cnt3 tin3 sp3 pe3 slp3 late3 srv3 hv av3 bd3 sh3 sc lt rule now3 st3 asl3 idl3 idn3 par div dee) H → va_D A (wP cI cJ cZ q pw co la vo cpar fr cdee use run3 nC tdue3 tlat3 twk3 nT3 edue3 elat3 ewk3 nE3 len3 cnt3 tin3 sp3 pe3 slp3 late3 srv3 hv av3 bd3 sh3 sc lt rule now3 st3 asl3 idl3 idn3 par div dee) → va_S A s.heap H locs → ∀ ls : Array Slot, lv_has ls 3 [(2, .int (iI k)), (0, .ref (q 0)), (1, .int (iI x1))] → W p l e rmX7_play_ok s m ([.ref (q 0), .int (iI x1)] : List Value).toArray below meth c H locs 0 0 Q (F0 m 23 ls []) := by
      intro fuel
      induction fuel with
      | zero =>
        intro k st3 asl3 now3 nT3 tdue3 tlat3 twk3 nE3 edue3 ewk3 sp3 pe3 tin3 slp3 late3 srv3 av3 bd3 sh3 idl3 idn3 len3 cnt3 elat3 run3 hk ht3 hti3 hid3 hel3 hrun3 hmeas H locs hP hD hS ls hl
        exact absurd hmeas (by omega)
      | succ fuel ih =>
        intro k st3 asl3 now3 nT3 tdue3 tlat3 twk3 nE3 edue3 ewk3 sp3 pe3 tin3 slp3 late3 srv3 av3 bd3 sh3 idl3 idn3 len3 cnt3 elat3 run3 hk ht3 hti3 hid3 hel3 hrun3 hmeas H locs hP hD hS ls hl
        obtain ⟨i1, i2, i3, i4, i5, i6, i7, i8, i9, i10, i11, i12, i13, i14, i15, i16, i17⟩ := id hti3
        refine lv_iload_n hx hb dX7_play_23 rfl (lv_at hl 0 rfl) ?_
        refine lv_iload_n hx hb dX7_play_24 rfl (lv_at hl 2 rfl) ?_
        refine zi_cge (tgt := 38) hx hb (by omega) (by omega) dX7_play_25 (by decide) (fun c_2 => ?_) (fun c_2 => ?_)
        · skip
          refine lv_aload_n hx hb dX7_play_38 rfl (lv_at hl 1 rfl) ?_
          refine va_get (D := (dC, dI)) (ci := 7) (v := .int (iI now3)) (C := RX7) (T := TX7) (N := 13) hx hb hts hinX7 hown hK.1 hP 0 rfl rfl 10 (by decide) (hts _ (List.mem_of_getElem? (i := 3) rfl)) (fun _ h9 => h9) rfl dX7_play_39 ?_
          subst hQ
          exact zret_i (W1 := fun u9 : Int × Int × Int × Int × (Int → Int) × (Int → Int) × (Int → Int) × Int × (Int → Int) × (Int → Int) × Int × Int × (Int → Int) × Int × Int × Int × Int × Int × Int × (Int → Int) × Int × (Int → Int) × Int × (Int → Int) × (Int → Int) => wP cI cJ cZ q pw co la vo cpar fr cdee use (u9.2.2.2.2.2.2.2.2.2.2.2.2.2.2.2.2.2.2.2.2.2.2.2.2) nC (u9.2.2.2.2.1) (u9.2.2.2.2.2.1) (u9.2.2.2.2.2.2.1) (u9.2.2.2.1) (u9.2.2.2.2.2.2.2.2.1) (u9.2.2.2.2.2.2.2.2.2.2.2.2.2.2.2.2.2.2.2.2.2.2.2.1) (u9.2.2.2.2.2.2.2.2.2.1) (u9.2.2.2.2.2.2.2.1) (u9.2.2.2.2.2.2.2.2.2.2.2.2.2.2.2.2.2.2.2.2.2.1) (u9.2.2.2.2.2.2.2.2.2.2.2.2.2.2.2.2.2.2.2.2.2.2.1) (u9.2.2.2.2.2.2.2.2.2.2.2.2.1) (u9.2.2.2.2.2.2.2.2.2.2.1) (u9.2.2.2.2.2.2.2.2.2.2.2.1) (u9.2.2.2.2.2.2.2.2.2.2.2.2.2.1) (u9.2.2.2.2.2.2.2.2.2.2.2.2.2.2.1) (u9.2.2.2.2.2.2.2.2.2.2.2.2.2.2.2.1) hv (u9.2.2.2.2.2.2.2.2.2.2.2.2.2.2.2.2.1) (u9.2.2.2.2.2.2.2.2.2.2.2.2.2.2.2.2.2.1) (u9.2.2.2.2.2.2.2.2.2.2.2.2.2.2.2.2.2.2.1) sc lt rule (u9.2.2.1) (u9.1) (u9.2.1) (u9.2.2.2.2.2.2.2.2.2.2.2.2.2.2.2.2.2.2.2.1) (u9.2.2.2.2.2.2.2.2.2.2.2.2.2.2.2.2.2.2.2.2.1) par div dee) (st3, asl3, now3, nT3, tdue3, tlat3, twk3, nE3, edue3, ewk3, sp3, pe3, tin3, slp3, late3, srv3, av3, bd3, sh3, idl3, idn3, len3, cnt3, elat3, run3) hx hb hr hP hD hS hlocks dX7_play_42 (by refine ⟨rfl, ?_, hid3, hel3, hrun3⟩; (obtain rfl : k = x1 := by omega); exact ht3)
        · skip
          refine lv_aload_n hx hb dX7_play_28 rfl (lv_at hl 1 rfl) ?_
          refine zc_v (va_runV (As := []) (rest := []) ⟨hx, hb, hml, hown, hts⟩ (kX7_playTick l dC dI cI cJ cZ q pw co la vo cpar fr cdee use run3 nC tdue3 tlat3 twk3 nT3 edue3 elat3 ewk3 nE3 len3 cnt3 tin3 sp3 pe3 slp3 late3 srv3 hv av3 bd3 sh3 sc lt rule now3 st3 asl3 idl3 idn3 par div dee (by first | assumption | omega | exact b2i_01 _) (by first | assumption | omega | exact b2i_01 _) (by first | assumption | omega | exact b2i_01 _) (by first | assumption | omega | exact b2i_01 _) (by first | assumption | omega | exact b2i_01 _) (by first | assumption | omega | exact b2i_01 _) (by first | assumption | omega | exact b2i_01 _) (by first | assumption | omega | exact b2i_01 _) (by first | assumption | omega | exact b2i_01 _) (by first | assumption | omega | exact b2i_01 _) (by first | assumption | omega | exact b2i_01 _) (by first | assumption | omega | exact b2i_01 _) (by first | assumption | omega | exact b2i_01 _) (by first | assumption | omega | exact b2i_01 _) (by first | assumption | omega | exact b2i_01 _) (by first | assumption | omega | exact b2i_01 _) (by first | assumption | omega | exact b2i_01 _) (by first | assumption | omega | exact b2i_01 _) (by first | assumption | omega | exact b2i_01 _) (by first | assumption | omega | exact b2i_01 _) (by first | assumption | omega | exact b2i_01 _) (by first | assumption | omega | exact b2i_01 _) (by first | assumption | omega | exact b2i_01 _) (by first | assumption | omega | exact b2i_01 _) (by first | assumption | omega | exact b2i_01 _) (by first | assumption | omega | exact b2i_01 _) (by first | assumption | omega | exact b2i_01 _) (by first | assumption | omega | exact b2i_01 _) (by first | assumption | omega | exact b2i_01 _) (by first | assumption | omega | exact b2i_01 _) H.size) (cwV 0 hts gX7_play_X7_playTick rfl rfl rfl (by decide +kernel) ⟨Nat.le_of_ble_eq_true rfl, Nat.le_of_ble_eq_true rfl⟩) (zpV hK hP hD [0, 1, 2, 3, 4, 5, 6, 7, 8, 9, 10, 11, 12, 13, 14, 15, 16, 17, 18, 19, 20, 21, 22, 23, 24, 25, 26, 27, 28] rfl rfl 0 rfl rfl) rfl rfl hl.1 rfl (lv_room (Nat.le_of_ble_eq_true rfl)) dX7_play_29 ⟨Nat.le_of_ble_eq_true rfl, Nat.le_of_ble_eq_true rfl⟩) hP hD hS hA [0, 1, 2, 3, 4, 5, 6, 7, 8, 9, 10, 11, 12, 13, 14, 15, 16, 17, 18, 19, 20, 21, 22, 23, 24, 25, 26, 27, 28] [] rfl rfl rfl (by decide) (fun u_4 H locs r_3 hP hD hS => ?_)
          obtain ⟨stx_6, aslx_7, nowx_8, nTx_9, tduex_10, tlatx_11, twkx_12, nEx_13, eduex_14, ewkx_15, spx_16, pex_17, tinx_18, slpx_19, latex_20, srvx_21, avx_22, bdx_23, shx_24, idlx_25, idnx_26, lenx_27, cntx_28, elatx_29, runx_30⟩ := u_4
          have r_3 : (stx_6, aslx_7, nowx_8, nTx_9, tduex_10, tlatx_11, twkx_12, nEx_13, eduex_14, ewkx_15, spx_16, pex_17, tinx_18, slpx_19, latex_20, srvx_21, avx_22, bdx_23, shx_24, idlx_25, idnx_26) = tkB pw co la hv rule (dzM vo par dee use nC) st3 asl3 now3 nT3 tdue3 tlat3 twk3 nE3 edue3 ewk3 sp3 pe3 tin3 slp3 late3 srv3 av3 bd3 sh3 idl3 idn3 ∧ idR lenx_27 cntx_28 idlx_25 idnx_26 ∧ rgZ elatx_29 12 1000000 ∧ tfZ runx_30 := r_3
          have hP : va_P (dC, dI) vwCl (wP cI cJ cZ q pw co la vo cpar fr cdee use runx_30 nC tduex_10 tlatx_11 twkx_12 nTx_9 eduex_14 elatx_29 ewkx_15 nEx_13 lenx_27 cntx_28 tinx_18 spx_16 pex_17 slpx_19 latex_20 srvx_21 hv avx_22 bdx_23 shx_24 sc lt rule nowx_8 stx_6 aslx_7 idlx_25 idnx_26 par div dee) H := hP
          have hD : va_D A (wP cI cJ cZ q pw co la vo cpar fr cdee use runx_30 nC tduex_10 tlatx_11 twkx_12 nTx_9 eduex_14 elatx_29 ewkx_15 nEx_13 lenx_27 cntx_28 tinx_18 spx_16 pex_17 slpx_19 latex_20 srvx_21 hv avx_22 bdx_23 shx_24 sc lt rule nowx_8 stx_6 aslx_7 idlx_25 idnx_26 par div dee) := hD
          obtain ⟨hw9, hid9, hel9, hrun9⟩ := r_3
          have hti9 := tk_i (hv := hv) (rule := rule) (K := K9 + k) hpw hco hla hdz (by omega) hti3
          rw [← hw9] at hti9
          refine lv_iinc (v := iI (k + 1)) (lv' := [(2, .int (iI (k + 1))), (0, .ref (q 0)), (1, .int (iI x1))]) hx hb dX7_play_32 hl (k := 0) rfl (iI_add _ _) (by decide) rfl (fun ls hl => ?_)
          refine lv_goto (tgt := 23) hx hb dX7_play_35 (by decide) ?_
          exact ih (k + 1) stx_6 aslx_7 nowx_8 nTx_9 tduex_10 tlatx_11 twkx_12 nEx_13 eduex_14 ewkx_15 spx_16 pex_17 tinx_18 slpx_19 latex_20 srvx_21 avx_22 bdx_23 shx_24 idlx_25 idnx_26 lenx_27 cntx_28 elatx_29 runx_30 (by omega) (by rw [show (k + 1).toNat = k.toNat + 1 by omega, itT_s, ← ht3]; exact hw9) (by rw [show K9 + (k + 1) = K9 + k + 1 by omega]; exact hti9) (hid9) (hel9) (hrun9) (by omega) H locs hP hD hS ls (lv_sub hl [0, 1, 2] rfl)
    exact L23 (_ + 1) 0 st asl now nT tdue tlat twk nE edue ewk sp pe tin slp late srv av bd sh idl idn len cnt elat run (by omega) (rfl) (by rw [Int.add_zero]; exact hti) (hid) (hel) (hrun) (Nat.lt_succ_self _) s.heap [] hP hD hS ls (lv_sub hl [0, 1, 2] rfl)
  · skip
    exfalso; omega
