def rmX8_isClock : Room := { frames := 0, cells := 0, slots := 0, locals := 0 }
set_option maxRecDepth 100000 in
set_option maxHeartbeats 4000000 in
theorem kX8_isClock (l : Launch) (dC : Nat → ClassId) (dI : Nat → Nat → Nat) (cI cJ cZ : ClassId) (q : Nat → Nat)  (pw : Int → Int) (co : Int → Int) (la : Int → Int) (vo : Int → Int) (nC : Int) (par : Int → Int) (div : Int → Int) (dee : Int → Int) (use : Int → Int) (mrun : Int → Int) (nT : Int) (due : Int → Int) (lat : Int → Int) (wk : Int → Int) (nE : Int) (tk : Int → Int) (ld : Int → Int) (rule : Int) (now : Int) (st : Int) (asl : Int) (idn : Int) (idl : Int → Int) (sp : Int) (pe : Int) (tin : Int → Int) (slp : Int) (late : Int) (srv : Int) (hv : Int → Int) (av : Int) (bd : Int) (sh : Int) (mL : Int → Int) (mB : Int → Int) (thr : Int) (x1 : Int) (hnC : 1 ≤ nC ∧ nC ≤ 8) (hx1 : zR x1) : zPi l yX8_isClock wsX8_isClock rmX8_isClock (dC, dI) (zT cI cJ cZ) (wM cI cJ cZ q pw co la vo nC par div dee use mrun nT due lat wk nE tk ld rule now st asl idn idl sp pe tin slp late srv hv av bd sh mL mB thr) [.ref (q 0), .int (iI x1)] (b2i (0 ≤ x1 ∧ x1 < nC)) := by
  refine zent_pi (cc := cX8_isClock) (maxL := 2) (ret := (some .boolean)) (by decide +kernel) rfl (Nat.le_of_ble_eq_true rfl) ?_
  intro p e s m below meth c ls hE hP hK hl
  obtain ⟨hx, hb, hr, hml, hown, hts, hlocks, hmn⟩ := hE
  have hinX8 : ∀ w ∈ u_ws RX8 TX8 36, w ∈ wsX8_isClock := by decide +kernel
  have hl : lv_has ls 2 [(0, .ref (q 0)), (1, .int (iI x1))] := hl
  refine z_gen (fun Q hQ => ?_)
  refine lv_iload_n hx hb dX8_isClock_0 rfl (lv_at hl 1 rfl) ?_
  refine zi_flt (tgt := 16) hx hb (by omega) dX8_isClock_1 (by decide) (fun c_1 => ?_) (fun c_1 => ?_)
  · skip
    refine lv_iconst (v := iI 0) hx hb dX8_isClock_16 rfl ?_
    subst hQ
    exact zret_pz hx hb hr hlocks dX8_isClock_17 (by first | decide | omega) (by first | exact (b2i_t ⟨by omega, by omega⟩).symm | exact (b2i_f (by omega)).symm)
  · skip
    refine lv_iload_n hx hb dX8_isClock_4 rfl (lv_at hl 1 rfl) ?_
    refine lv_aload_n hx hb dX8_isClock_5 rfl (lv_at hl 0 rfl) ?_
    refine va_get (D := (dC, dI)) (ci := 8) (v := .int (iI nC)) (C := RX8) (T := TX8) (N := 36) hx hb hts hinX8 hown hK.1 hP 0 rfl rfl 4 (by decide) (hts _ (List.mem_of_getElem? (i := 1) rfl)) (fun _ h9 => h9) rfl dX8_isClock_6 ?_
    refine zi_cge (tgt := 16) hx hb (by omega) (by omega) dX8_isClock_9 (by decide) (fun c_2 => ?_) (fun c_2 => ?_)
    · skip
      refine lv_iconst (v := iI 0) hx hb dX8_isClock_16 rfl ?_
      subst hQ
      exact zret_pz hx hb hr hlocks dX8_isClock_17 (by first | decide | omega) (by first | exact (b2i_t ⟨by omega, by omega⟩).symm | exact (b2i_f (by omega)).symm)
    · skip
      refine lv_iconst (v := iI 1) hx hb dX8_isClock_12 rfl ?_
      refine lv_goto (tgt := 17) hx hb dX8_isClock_13 (by decide) ?_
      subst hQ
      exact zret_pz hx hb hr hlocks dX8_isClock_17 (by first | decide | omega) (by first | exact (b2i_t ⟨by omega, by omega⟩).symm | exact (b2i_f (by omega)).symm)
def rmX8_setState : Room := { frames := 2, cells := 0, slots := 0, locals := 42 }
set_option maxRecDepth 100000 in
set_option maxHeartbeats 4000000 in
theorem kX8_setState (l : Launch) (dC : Nat → ClassId) (dI : Nat → Nat → Nat) (cI cJ cZ : ClassId) (q : Nat → Nat)  (pw : Int → Int) (co : Int → Int) (la : Int → Int) (vo : Int → Int) (nC : Int) (par : Int → Int) (div : Int → Int) (dee : Int → Int) (use : Int → Int) (mrun : Int → Int) (nT : Int) (due : Int → Int) (lat : Int → Int) (wk : Int → Int) (nE : Int) (tk : Int → Int) (ld : Int → Int) (rule : Int) (now : Int) (st : Int) (asl : Int) (idn : Int) (idl : Int → Int) (sp : Int) (pe : Int) (tin : Int → Int) (slp : Int) (late : Int) (srv : Int) (hv : Int → Int) (av : Int) (bd : Int) (sh : Int) (mL : Int → Int) (mB : Int → Int) (thr : Int) (x1 x2 x3 x4 : Int) (hx1 : zR x1) (hx2 : zR x2) (hx3 : zR x3) (hx4 : zR x4) (hst : 0 ≤ st ∧ st ≤ 3) (hpw : rgZ pw 4 1000) (hco : rgZ co 4 10000) (hla : rgZ la 4 100) (hidn : 0 ≤ idn ∧ idn ≤ 2000000) (hidl : rgZ idl 4 1000000) : zMv l yX8_setState wsX8_setState rmX8_setState (dC, dI) (zT cI cJ cZ) (wM cI cJ cZ q pw co la vo nC par div dee use mrun nT due lat wk nE tk ld rule now st asl idn idl sp pe tin slp late srv hv av bd sh mL mB thr) [.ref (q 0), .int (iI x1), .int (iI x2), .int (iI x3), .int (iI x4)] (fun (u9 : Int × Int × Int × Int × (Int → Int) × Int × (Int → Int) × (Int → Int) × (Int → Int)) => (((1 ≤ x1 ∧ x1 ≤ 3) ∧ (0 ≤ x2 ∧ x2 ≤ 1000) ∧ (0 ≤ x3 ∧ x3 ≤ 10000) ∧ (0 ≤ x4 ∧ x4 ≤ 100)) ∧ (u9.1) = 0 ∧ ((u9.2.1), (u9.2.2.1), (u9.2.2.2.1), (u9.2.2.2.2.1), (u9.2.2.2.2.2.1)) = scF pw la st asl now sp pe idl idn ∧ (u9.2.2.2.2.2.2.1) = uZ pw x1 x2 ∧ (u9.2.2.2.2.2.2.2.1) = uZ co x1 x3 ∧ (u9.2.2.2.2.2.2.2.2) = uZ la x1 x4) ∨ (¬ ((1 ≤ x1 ∧ x1 ≤ 3) ∧ (0 ≤ x2 ∧ x2 ≤ 1000) ∧ (0 ≤ x3 ∧ x3 ≤ 10000) ∧ (0 ≤ x4 ∧ x4 ≤ 100)) ∧ (u9.1) = 1 ∧ (u9.2.1) = st ∧ (u9.2.2.1) = sp ∧ (u9.2.2.2.1) = pe ∧ (u9.2.2.2.2.1) = idl ∧ (u9.2.2.2.2.2.1) = idn ∧ (u9.2.2.2.2.2.2.1) = pw ∧ (u9.2.2.2.2.2.2.2.1) = co ∧ (u9.2.2.2.2.2.2.2.2) = la)) (fun u9 : Int × Int × Int × Int × (Int → Int) × Int × (Int → Int) × (Int → Int) × (Int → Int) => wM cI cJ cZ q (u9.2.2.2.2.2.2.1) (u9.2.2.2.2.2.2.2.1) (u9.2.2.2.2.2.2.2.2) vo nC par div dee use mrun nT due lat wk nE tk ld rule now (u9.2.1) asl (u9.2.2.2.2.2.1) (u9.2.2.2.2.1) (u9.2.2.1) (u9.2.2.2.1) tin slp late srv hv av bd sh mL mB (u9.1)) 0 0 := by
  refine zent_v (cc := cX8_setState) (maxL := 5) (ret := none) (by decide +kernel) rfl (Nat.le_of_ble_eq_true rfl) ?_
  intro p e s m below meth c A ls hE hP hK hA hD hS hl
  obtain ⟨hx, hb, hr, hml, hown, hts, hlocks, hmn⟩ := hE
  have hinX8 : ∀ w ∈ u_ws RX8 TX8 36, w ∈ wsX8_setState := by decide +kernel
  have hl : lv_has ls 5 [(0, .ref (q 0)), (1, .int (iI x1)), (2, .int (iI x2)), (3, .int (iI x3)), (4, .int (iI x4))] := hl
  refine z_gen (fun Q hQ => ?_)
  refine lv_aload_n hx hb dX8_setState_0 rfl (lv_at hl 0 rfl) ?_
  refine lv_iload_n hx hb dX8_setState_1 rfl (lv_at hl 1 rfl) ?_
  refine lv_iconst (v := iI 1) hx hb dX8_setState_2 rfl ?_
  refine lv_iconst (v := iI 3) hx hb dX8_setState_3 rfl ?_
  refine zc_pi (va_runS (As := [.int (iI x1), .int (iI 1), .int (iI 3)]) (rest := [.ref (q 0)]) ⟨hx, hb, hml, hown, hts⟩ (kX8_in l dC dI cI cJ cZ x1 1 3 (by first | assumption | omega | exact b2i_01 _) (by first | assumption | omega | exact b2i_01 _) (by first | assumption | omega | exact b2i_01 _)) (va_cwS 3 hts gX8_setState_X8_in rfl rfl rfl (by decide +kernel) ⟨Nat.le_of_ble_eq_true rfl, Nat.le_of_ble_eq_true rfl⟩) (zqS hK hP [] rfl) rfl rfl hl.1 rfl (lv_room (Nat.le_of_ble_eq_true rfl)) dX8_setState_4 ⟨Nat.le_of_ble_eq_true rfl, Nat.le_of_ble_eq_true rfl⟩) ?_
  refine zb_feq (tgt := 47) hx hb dX8_setState_7 (by decide) (fun c_1 => ?_) (fun c_1 => ?_)
  · skip
    refine lv_iconst (v := iI 0) hx hb dX8_setState_47 rfl ?_
    refine zc_i (va_runV (As := [.int (iI 0)]) (rest := []) ⟨hx, hb, hml, hown, hts⟩ (kX8_asks l dC dI cI cJ cZ q pw co la vo nC par div dee use mrun nT due lat wk nE tk ld rule now st asl idn idl sp pe tin slp late srv hv av bd sh mL mB thr 0 (by first | assumption | omega | exact b2i_01 _) s.heap.size) (cwV 1 hts gX8_setState_X8_asks rfl rfl rfl (by decide +kernel) ⟨Nat.le_of_ble_eq_true rfl, Nat.le_of_ble_eq_true rfl⟩) (zpV hK hP hD [0, 1, 2, 3, 4, 5, 6, 7, 8, 9, 10, 11, 12, 13, 14, 15, 16, 17, 18, 19] rfl rfl 0 rfl rfl) rfl rfl hl.1 rfl (lv_room (Nat.le_of_ble_eq_true rfl)) dX8_setState_48 ⟨Nat.le_of_ble_eq_true rfl, Nat.le_of_ble_eq_true rfl⟩) hP hD hS hA [0, 1, 2, 3, 4, 5, 6, 7, 8, 9, 10, 11, 12, 13, 14, 15, 16, 17, 18, 19] [] rfl rfl rfl (by decide) (fun v_4 u_3 H locs r_2 hP hD hS => ?_)
    refine ze_i r_2 ?_
    have hP : va_P (dC, dI) vwCl (wM cI cJ cZ q pw co la vo nC par div dee use mrun nT due lat wk nE tk ld rule now st asl idn idl sp pe tin slp late srv hv av bd sh mL mB (1 - 0)) H := hP
    have hD : va_D A (wM cI cJ cZ q pw co la vo nC par div dee use mrun nT due lat wk nE tk ld rule now st asl idn idl sp pe tin slp late srv hv av bd sh mL mB (1 - 0)) := hD
    refine zi_fne (tgt := 55) hx hb (by decide) dX8_setState_51 (by decide) (fun c_5 => ?_) (fun c_5 => ?_)
    · skip
      exact absurd c_5 (by decide)
    · skip
      subst hQ
      exact zret_v (W1 := fun u9 : Int × Int × Int × Int × (Int → Int) × Int × (Int → Int) × (Int → Int) × (Int → Int) => wM cI cJ cZ q (u9.2.2.2.2.2.2.1) (u9.2.2.2.2.2.2.2.1) (u9.2.2.2.2.2.2.2.2) vo nC par div dee use mrun nT due lat wk nE tk ld rule now (u9.2.1) asl (u9.2.2.2.2.2.1) (u9.2.2.2.2.1) (u9.2.2.1) (u9.2.2.2.1) tin slp late srv hv av bd sh mL mB (u9.1)) (1 - 0, st, sp, pe, idl, idn, pw, co, la) hx hb hr hP hD hS hlocks dX8_setState_54 (by first | (exact Or.inl (⟨by omega, by (first | rfl | (rw [b2i_t (by omega)]; done) | (rw [b2i_f (by omega)]; done) | (rw [b2i_t (by omega)]; rfl) | (rw [b2i_f (by omega)]; rfl)), by exact hsc9, by rfl, by rfl, by rfl⟩)) | (exact Or.inr (⟨by omega, by (first | rfl | (rw [b2i_t (by omega)]; done) | (rw [b2i_f (by omega)]; done) | (rw [b2i_t (by omega)]; rfl) | (rw [b2i_f (by omega)]; rfl)), rfl, rfl, rfl, rfl, rfl, rfl, rfl, rfl⟩)))
  · skip
    refine lv_iload_n hx hb dX8_setState_10 rfl (lv_at hl 2 rfl) ?_
    refine lv_iconst (v := iI 0) hx hb dX8_setState_11 rfl ?_
    refine lv_sipush (v := iI 1000) hx hb dX8_setState_12 (by decide) ?_
    refine zc_pi (va_runS (As := [.int (iI x2), .int (iI 0), .int (iI 1000)]) (rest := [.ref (q 0)]) ⟨hx, hb, hml, hown, hts⟩ (kX8_in l dC dI cI cJ cZ x2 0 1000 (by first | assumption | omega | exact b2i_01 _) (by first | assumption | omega | exact b2i_01 _) (by first | assumption | omega | exact b2i_01 _)) (va_cwS 3 hts gX8_setState_X8_in rfl rfl rfl (by decide +kernel) ⟨Nat.le_of_ble_eq_true rfl, Nat.le_of_ble_eq_true rfl⟩) (zqS hK hP [] rfl) rfl rfl hl.1 rfl (lv_room (Nat.le_of_ble_eq_true rfl)) dX8_setState_15 ⟨Nat.le_of_ble_eq_true rfl, Nat.le_of_ble_eq_true rfl⟩) ?_
    refine zb_feq (tgt := 47) hx hb dX8_setState_18 (by decide) (fun c_6 => ?_) (fun c_6 => ?_)
    · skip
      refine lv_iconst (v := iI 0) hx hb dX8_setState_47 rfl ?_
      refine zc_i (va_runV (As := [.int (iI 0)]) (rest := []) ⟨hx, hb, hml, hown, hts⟩ (kX8_asks l dC dI cI cJ cZ q pw co la vo nC par div dee use mrun nT due lat wk nE tk ld rule now st asl idn idl sp pe tin slp late srv hv av bd sh mL mB thr 0 (by first | assumption | omega | exact b2i_01 _) s.heap.size) (cwV 1 hts gX8_setState_X8_asks rfl rfl rfl (by decide +kernel) ⟨Nat.le_of_ble_eq_true rfl, Nat.le_of_ble_eq_true rfl⟩) (zpV hK hP hD [0, 1, 2, 3, 4, 5, 6, 7, 8, 9, 10, 11, 12, 13, 14, 15, 16, 17, 18, 19] rfl rfl 0 rfl rfl) rfl rfl hl.1 rfl (lv_room (Nat.le_of_ble_eq_true rfl)) dX8_setState_48 ⟨Nat.le_of_ble_eq_true rfl, Nat.le_of_ble_eq_true rfl⟩) hP hD hS hA [0, 1, 2, 3, 4, 5, 6, 7, 8, 9, 10, 11, 12, 13, 14, 15, 16, 17, 18, 19] [] rfl rfl rfl (by decide) (fun v_9 u_8 H locs r_7 hP hD hS => ?_)
      refine ze_i r_7 ?_
      have hP : va_P (dC, dI) vwCl (wM cI cJ cZ q pw co la vo nC par div dee use mrun nT due lat wk nE tk ld rule now st asl idn idl sp pe tin slp late srv hv av bd sh mL mB (1 - 0)) H := hP
      have hD : va_D A (wM cI cJ cZ q pw co la vo nC par div dee use mrun nT due lat wk nE tk ld rule now st asl idn idl sp pe tin slp late srv hv av bd sh mL mB (1 - 0)) := hD
      refine zi_fne (tgt := 55) hx hb (by decide) dX8_setState_51 (by decide) (fun c_10 => ?_) (fun c_10 => ?_)
      · skip
        exact absurd c_10 (by decide)
      · skip
        subst hQ
        exact zret_v (W1 := fun u9 : Int × Int × Int × Int × (Int → Int) × Int × (Int → Int) × (Int → Int) × (Int → Int) => wM cI cJ cZ q (u9.2.2.2.2.2.2.1) (u9.2.2.2.2.2.2.2.1) (u9.2.2.2.2.2.2.2.2) vo nC par div dee use mrun nT due lat wk nE tk ld rule now (u9.2.1) asl (u9.2.2.2.2.2.1) (u9.2.2.2.2.1) (u9.2.2.1) (u9.2.2.2.1) tin slp late srv hv av bd sh mL mB (u9.1)) (1 - 0, st, sp, pe, idl, idn, pw, co, la) hx hb hr hP hD hS hlocks dX8_setState_54 (by first | (exact Or.inl (⟨by omega, by (first | rfl | (rw [b2i_t (by omega)]; done) | (rw [b2i_f (by omega)]; done) | (rw [b2i_t (by omega)]; rfl) | (rw [b2i_f (by omega)]; rfl)), by exact hsc9, by rfl, by rfl, by rfl⟩)) | (exact Or.inr (⟨by omega, by (first | rfl | (rw [b2i_t (by omega)]; done) | (rw [b2i_f (by omega)]; done) | (rw [b2i_t (by omega)]; rfl) | (rw [b2i_f (by omega)]; rfl)), rfl, rfl, rfl, rfl, rfl, rfl, rfl, rfl⟩)))
    · skip
      refine lv_iload_n hx hb dX8_setState_21 rfl (lv_at hl 3 rfl) ?_
      refine lv_iconst (v := iI 0) hx hb dX8_setState_22 rfl ?_
      refine lv_sipush (v := iI 10000) hx hb dX8_setState_23 (by decide) ?_
      refine zc_pi (va_runS (As := [.int (iI x3), .int (iI 0), .int (iI 10000)]) (rest := [.ref (q 0)]) ⟨hx, hb, hml, hown, hts⟩ (kX8_in l dC dI cI cJ cZ x3 0 10000 (by first | assumption | omega | exact b2i_01 _) (by first | assumption | omega | exact b2i_01 _) (by first | assumption | omega | exact b2i_01 _)) (va_cwS 3 hts gX8_setState_X8_in rfl rfl rfl (by decide +kernel) ⟨Nat.le_of_ble_eq_true rfl, Nat.le_of_ble_eq_true rfl⟩) (zqS hK hP [] rfl) rfl rfl hl.1 rfl (lv_room (Nat.le_of_ble_eq_true rfl)) dX8_setState_26 ⟨Nat.le_of_ble_eq_true rfl, Nat.le_of_ble_eq_true rfl⟩) ?_
      refine zb_feq (tgt := 47) hx hb dX8_setState_29 (by decide) (fun c_11 => ?_) (fun c_11 => ?_)
      · skip
        refine lv_iconst (v := iI 0) hx hb dX8_setState_47 rfl ?_
        refine zc_i (va_runV (As := [.int (iI 0)]) (rest := []) ⟨hx, hb, hml, hown, hts⟩ (kX8_asks l dC dI cI cJ cZ q pw co la vo nC par div dee use mrun nT due lat wk nE tk ld rule now st asl idn idl sp pe tin slp late srv hv av bd sh mL mB thr 0 (by first | assumption | omega | exact b2i_01 _) s.heap.size) (cwV 1 hts gX8_setState_X8_asks rfl rfl rfl (by decide +kernel) ⟨Nat.le_of_ble_eq_true rfl, Nat.le_of_ble_eq_true rfl⟩) (zpV hK hP hD [0, 1, 2, 3, 4, 5, 6, 7, 8, 9, 10, 11, 12, 13, 14, 15, 16, 17, 18, 19] rfl rfl 0 rfl rfl) rfl rfl hl.1 rfl (lv_room (Nat.le_of_ble_eq_true rfl)) dX8_setState_48 ⟨Nat.le_of_ble_eq_true rfl, Nat.le_of_ble_eq_true rfl⟩) hP hD hS hA [0, 1, 2, 3, 4, 5, 6, 7, 8, 9, 10, 11, 12, 13, 14, 15, 16, 17, 18, 19] [] rfl rfl rfl (by decide) (fun v_14 u_13 H locs r_12 hP hD hS => ?_)
        refine ze_i r_12 ?_
        have hP : va_P (dC, dI) vwCl (wM cI cJ cZ q pw co la vo nC par div dee use mrun nT due lat wk nE tk ld rule now st asl idn idl sp pe tin slp late srv hv av bd sh mL mB (1 - 0)) H := hP
        have hD : va_D A (wM cI cJ cZ q pw co la vo nC par div dee use mrun nT due lat wk nE tk ld rule now st asl idn idl sp pe tin slp late srv hv av bd sh mL mB (1 - 0)) := hD
        refine zi_fne (tgt := 55) hx hb (by decide) dX8_setState_51 (by decide) (fun c_15 => ?_) (fun c_15 => ?_)
        · skip
          exact absurd c_15 (by decide)
        · skip
          subst hQ
          exact zret_v (W1 := fun u9 : Int × Int × Int × Int × (Int → Int) × Int × (Int → Int) × (Int → Int) × (Int → Int) => wM cI cJ cZ q (u9.2.2.2.2.2.2.1) (u9.2.2.2.2.2.2.2.1) (u9.2.2.2.2.2.2.2.2) vo nC par div dee use mrun nT due lat wk nE tk ld rule now (u9.2.1) asl (u9.2.2.2.2.2.1) (u9.2.2.2.2.1) (u9.2.2.1) (u9.2.2.2.1) tin slp late srv hv av bd sh mL mB (u9.1)) (1 - 0, st, sp, pe, idl, idn, pw, co, la) hx hb hr hP hD hS hlocks dX8_setState_54 (by first | (exact Or.inl (⟨by omega, by (first | rfl | (rw [b2i_t (by omega)]; done) | (rw [b2i_f (by omega)]; done) | (rw [b2i_t (by omega)]; rfl) | (rw [b2i_f (by omega)]; rfl)), by exact hsc9, by rfl, by rfl, by rfl⟩)) | (exact Or.inr (⟨by omega, by (first | rfl | (rw [b2i_t (by omega)]; done) | (rw [b2i_f (by omega)]; done) | (rw [b2i_t (by omega)]; rfl) | (rw [b2i_f (by omega)]; rfl)), rfl, rfl, rfl, rfl, rfl, rfl, rfl, rfl⟩)))
      · skip
        refine lv_iload hx hb dX8_setState_32 (lv_at hl 4 rfl) ?_
        refine lv_iconst (v := iI 0) hx hb dX8_setState_34 rfl ?_
        refine lv_bipush (v := iI 100) hx hb dX8_setState_35 (by decide) ?_
        refine zc_pi (va_runS (As := [.int (iI x4), .int (iI 0), .int (iI 100)]) (rest := [.ref (q 0)]) ⟨hx, hb, hml, hown, hts⟩ (kX8_in l dC dI cI cJ cZ x4 0 100 (by first | assumption | omega | exact b2i_01 _) (by first | assumption | omega | exact b2i_01 _) (by first | assumption | omega | exact b2i_01 _)) (va_cwS 3 hts gX8_setState_X8_in rfl rfl rfl (by decide +kernel) ⟨Nat.le_of_ble_eq_true rfl, Nat.le_of_ble_eq_true rfl⟩) (zqS hK hP [] rfl) rfl rfl hl.1 rfl (lv_room (Nat.le_of_ble_eq_true rfl)) dX8_setState_37 ⟨Nat.le_of_ble_eq_true rfl, Nat.le_of_ble_eq_true rfl⟩) ?_
        refine zb_feq (tgt := 47) hx hb dX8_setState_40 (by decide) (fun c_16 => ?_) (fun c_16 => ?_)
        · skip
          refine lv_iconst (v := iI 0) hx hb dX8_setState_47 rfl ?_
          refine zc_i (va_runV (As := [.int (iI 0)]) (rest := []) ⟨hx, hb, hml, hown, hts⟩ (kX8_asks l dC dI cI cJ cZ q pw co la vo nC par div dee use mrun nT due lat wk nE tk ld rule now st asl idn idl sp pe tin slp late srv hv av bd sh mL mB thr 0 (by first | assumption | omega | exact b2i_01 _) s.heap.size) (cwV 1 hts gX8_setState_X8_asks rfl rfl rfl (by decide +kernel) ⟨Nat.le_of_ble_eq_true rfl, Nat.le_of_ble_eq_true rfl⟩) (zpV hK hP hD [0, 1, 2, 3, 4, 5, 6, 7, 8, 9, 10, 11, 12, 13, 14, 15, 16, 17, 18, 19] rfl rfl 0 rfl rfl) rfl rfl hl.1 rfl (lv_room (Nat.le_of_ble_eq_true rfl)) dX8_setState_48 ⟨Nat.le_of_ble_eq_true rfl, Nat.le_of_ble_eq_true rfl⟩) hP hD hS hA [0, 1, 2, 3, 4, 5, 6, 7, 8, 9, 10, 11, 12, 13, 14, 15, 16, 17, 18, 19] [] rfl rfl rfl (by decide) (fun v_19 u_18 H locs r_17 hP hD hS => ?_)
          refine ze_i r_17 ?_
          have hP : va_P (dC, dI) vwCl (wM cI cJ cZ q pw co la vo nC par div dee use mrun nT due lat wk nE tk ld rule now st asl idn idl sp pe tin slp late srv hv av bd sh mL mB (1 - 0)) H := hP
          have hD : va_D A (wM cI cJ cZ q pw co la vo nC par div dee use mrun nT due lat wk nE tk ld rule now st asl idn idl sp pe tin slp late srv hv av bd sh mL mB (1 - 0)) := hD
          refine zi_fne (tgt := 55) hx hb (by decide) dX8_setState_51 (by decide) (fun c_20 => ?_) (fun c_20 => ?_)
          · skip
            exact absurd c_20 (by decide)
          · skip
            subst hQ
            exact zret_v (W1 := fun u9 : Int × Int × Int × Int × (Int → Int) × Int × (Int → Int) × (Int → Int) × (Int → Int) => wM cI cJ cZ q (u9.2.2.2.2.2.2.1) (u9.2.2.2.2.2.2.2.1) (u9.2.2.2.2.2.2.2.2) vo nC par div dee use mrun nT due lat wk nE tk ld rule now (u9.2.1) asl (u9.2.2.2.2.2.1) (u9.2.2.2.2.1) (u9.2.2.1) (u9.2.2.2.1) tin slp late srv hv av bd sh mL mB (u9.1)) (1 - 0, st, sp, pe, idl, idn, pw, co, la) hx hb hr hP hD hS hlocks dX8_setState_54 (by first | (exact Or.inl (⟨by omega, by (first | rfl | (rw [b2i_t (by omega)]; done) | (rw [b2i_f (by omega)]; done) | (rw [b2i_t (by omega)]; rfl) | (rw [b2i_f (by omega)]; rfl)), by exact hsc9, by rfl, by rfl, by rfl⟩)) | (exact Or.inr (⟨by omega, by (first | rfl | (rw [b2i_t (by omega)]; done) | (rw [b2i_f (by omega)]; done) | (rw [b2i_t (by omega)]; rfl) | (rw [b2i_f (by omega)]; rfl)), rfl, rfl, rfl, rfl, rfl, rfl, rfl, rfl⟩)))
        · skip
          refine lv_iconst (v := iI 1) hx hb dX8_setState_43 rfl ?_
          refine lv_goto (tgt := 48) hx hb dX8_setState_44 (by decide) ?_
          refine zc_i (va_runV (As := [.int (iI 1)]) (rest := []) ⟨hx, hb, hml, hown, hts⟩ (kX8_asks l dC dI cI cJ cZ q pw co la vo nC par div dee use mrun nT due lat wk nE tk ld rule now st asl idn idl sp pe tin slp late srv hv av bd sh mL mB thr 1 (by first | assumption | omega | exact b2i_01 _) s.heap.size) (cwV 1 hts gX8_setState_X8_asks rfl rfl rfl (by decide +kernel) ⟨Nat.le_of_ble_eq_true rfl, Nat.le_of_ble_eq_true rfl⟩) (zpV hK hP hD [0, 1, 2, 3, 4, 5, 6, 7, 8, 9, 10, 11, 12, 13, 14, 15, 16, 17, 18, 19] rfl rfl 0 rfl rfl) rfl rfl hl.1 rfl (lv_room (Nat.le_of_ble_eq_true rfl)) dX8_setState_48 ⟨Nat.le_of_ble_eq_true rfl, Nat.le_of_ble_eq_true rfl⟩) hP hD hS hA [0, 1, 2, 3, 4, 5, 6, 7, 8, 9, 10, 11, 12, 13, 14, 15, 16, 17, 18, 19] [] rfl rfl rfl (by decide) (fun v_23 u_22 H locs r_21 hP hD hS => ?_)
          refine ze_i r_21 ?_
          have hP : va_P (dC, dI) vwCl (wM cI cJ cZ q pw co la vo nC par div dee use mrun nT due lat wk nE tk ld rule now st asl idn idl sp pe tin slp late srv hv av bd sh mL mB (1 - 1)) H := hP
          have hD : va_D A (wM cI cJ cZ q pw co la vo nC par div dee use mrun nT due lat wk nE tk ld rule now st asl idn idl sp pe tin slp late srv hv av bd sh mL mB (1 - 1)) := hD
          refine zi_fne (tgt := 55) hx hb (by decide) dX8_setState_51 (by decide) (fun c_24 => ?_) (fun c_24 => ?_)
          · skip
            refine lv_aload_n hx hb dX8_setState_55 rfl (lv_at hl 0 rfl) ?_
            refine zc_v (va_runV (As := []) (rest := []) ⟨hx, hb, hml, hown, hts⟩ (kX8_stirs l dC dI cI cJ cZ q pw co la vo nC par div dee use mrun nT due lat wk nE tk ld rule now st asl idn idl sp pe tin slp late srv hv av bd sh mL mB (1 - 1) (by first | assumption | omega | exact b2i_01 _) (by first | assumption | omega | exact b2i_01 _) (by first | assumption | omega | exact b2i_01 _) (by first | assumption | omega | exact b2i_01 _) (by first | assumption | omega | exact b2i_01 _) (by first | assumption | omega | exact b2i_01 _) H.size) (cwV 0 hts gX8_setState_X8_stirs rfl rfl rfl (by decide +kernel) ⟨Nat.le_of_ble_eq_true rfl, Nat.le_of_ble_eq_true rfl⟩) (zpV hK hP hD [0, 1, 2, 3, 4, 5, 6, 7, 8, 9, 10, 11, 12, 13, 14, 15, 16, 17, 18, 19] rfl rfl 0 rfl rfl) rfl rfl hl.1 rfl (lv_room (Nat.le_of_ble_eq_true rfl)) dX8_setState_56 ⟨Nat.le_of_ble_eq_true rfl, Nat.le_of_ble_eq_true rfl⟩) hP hD hS hA [0, 1, 2, 3, 4, 5, 6, 7, 8, 9, 10, 11, 12, 13, 14, 15, 16, 17, 18, 19] [] rfl rfl rfl (by decide) (fun u_26 H locs r_25 hP hD hS => ?_)
            obtain ⟨stx_28, spx_29, pex_30, idlx_31, idnx_32⟩ := u_26
            have r_25 : (stx_28, spx_29, pex_30, idlx_31, idnx_32) = scF pw la st asl now sp pe idl idn := r_25
            have hP : va_P (dC, dI) vwCl (wM cI cJ cZ q pw co la vo nC par div dee use mrun nT due lat wk nE tk ld rule now stx_28 asl idnx_32 idlx_31 spx_29 pex_30 tin slp late srv hv av bd sh mL mB (1 - 1)) H := hP
            have hD : va_D A (wM cI cJ cZ q pw co la vo nC par div dee use mrun nT due lat wk nE tk ld rule now stx_28 asl idnx_32 idlx_31 spx_29 pex_30 tin slp late srv hv av bd sh mL mB (1 - 1)) := hD
            have hsc9 := r_25
            refine lv_aload_n hx hb dX8_setState_59 rfl (lv_at hl 0 rfl) ?_
            refine va_get (D := (dC, dI)) (ci := 8) (v := .ref (q 1)) (C := RX8) (T := TX8) (N := 36) hx hb hts hinX8 hown hK.1 hP 0 rfl rfl 0 (by decide) (hts _ (List.mem_of_getElem? (i := 1) rfl)) (fun _ h9 => h9) rfl dX8_setState_60 ?_
            refine lv_iload_n hx hb dX8_setState_63 rfl (lv_at hl 1 rfl) ?_
            refine lv_iload_n hx hb dX8_setState_64 rfl (lv_at hl 2 rfl) ?_
            refine za_st hx hb hK hP hD hS 1 0 rfl rfl (by omega) (by omega) dX8_setState_65 (fun H locs hP hD hS => ?_)
            have hP : va_P (dC, dI) vwCl (wM cI cJ cZ q (uZ pw x1 x2) co la vo nC par div dee use mrun nT due lat wk nE tk ld rule now stx_28 asl idnx_32 idlx_31 spx_29 pex_30 tin slp late srv hv av bd sh mL mB (1 - 1)) H := hP
            have hD : va_D A (wM cI cJ cZ q (uZ pw x1 x2) co la vo nC par div dee use mrun nT due lat wk nE tk ld rule now stx_28 asl idnx_32 idlx_31 spx_29 pex_30 tin slp late srv hv av bd sh mL mB (1 - 1)) := hD
            refine lv_aload_n hx hb dX8_setState_66 rfl (lv_at hl 0 rfl) ?_
            refine va_get (D := (dC, dI)) (ci := 8) (v := .ref (q 2)) (C := RX8) (T := TX8) (N := 36) hx hb hts hinX8 hown hK.1 hP 0 rfl rfl 1 (by decide) (hts _ (List.mem_of_getElem? (i := 2) rfl)) (fun _ h9 => h9) rfl dX8_setState_67 ?_
            refine lv_iload_n hx hb dX8_setState_70 rfl (lv_at hl 1 rfl) ?_
            refine lv_iload_n hx hb dX8_setState_71 rfl (lv_at hl 3 rfl) ?_
            refine za_st hx hb hK hP hD hS 2 0 rfl rfl (by omega) (by omega) dX8_setState_72 (fun H locs hP hD hS => ?_)
            have hP : va_P (dC, dI) vwCl (wM cI cJ cZ q (uZ pw x1 x2) (uZ co x1 x3) la vo nC par div dee use mrun nT due lat wk nE tk ld rule now stx_28 asl idnx_32 idlx_31 spx_29 pex_30 tin slp late srv hv av bd sh mL mB (1 - 1)) H := hP
            have hD : va_D A (wM cI cJ cZ q (uZ pw x1 x2) (uZ co x1 x3) la vo nC par div dee use mrun nT due lat wk nE tk ld rule now stx_28 asl idnx_32 idlx_31 spx_29 pex_30 tin slp late srv hv av bd sh mL mB (1 - 1)) := hD
            refine lv_aload_n hx hb dX8_setState_73 rfl (lv_at hl 0 rfl) ?_
            refine va_get (D := (dC, dI)) (ci := 8) (v := .ref (q 3)) (C := RX8) (T := TX8) (N := 36) hx hb hts hinX8 hown hK.1 hP 0 rfl rfl 2 (by decide) (hts _ (List.mem_of_getElem? (i := 3) rfl)) (fun _ h9 => h9) rfl dX8_setState_74 ?_
            refine lv_iload_n hx hb dX8_setState_77 rfl (lv_at hl 1 rfl) ?_
            refine lv_iload hx hb dX8_setState_78 (lv_at hl 4 rfl) ?_
            refine za_st hx hb hK hP hD hS 3 0 rfl rfl (by omega) (by omega) dX8_setState_80 (fun H locs hP hD hS => ?_)
            have hP : va_P (dC, dI) vwCl (wM cI cJ cZ q (uZ pw x1 x2) (uZ co x1 x3) (uZ la x1 x4) vo nC par div dee use mrun nT due lat wk nE tk ld rule now stx_28 asl idnx_32 idlx_31 spx_29 pex_30 tin slp late srv hv av bd sh mL mB (1 - 1)) H := hP
            have hD : va_D A (wM cI cJ cZ q (uZ pw x1 x2) (uZ co x1 x3) (uZ la x1 x4) vo nC par div dee use mrun nT due lat wk nE tk ld rule now stx_28 asl idnx_32 idlx_31 spx_29 pex_30 tin slp late srv hv av bd sh mL mB (1 - 1)) := hD
            subst hQ
            exact zret_v (W1 := fun u9 : Int × Int × Int × Int × (Int → Int) × Int × (Int → Int) × (Int → Int) × (Int → Int) => wM cI cJ cZ q (u9.2.2.2.2.2.2.1) (u9.2.2.2.2.2.2.2.1) (u9.2.2.2.2.2.2.2.2) vo nC par div dee use mrun nT due lat wk nE tk ld rule now (u9.2.1) asl (u9.2.2.2.2.2.1) (u9.2.2.2.2.1) (u9.2.2.1) (u9.2.2.2.1) tin slp late srv hv av bd sh mL mB (u9.1)) (1 - 1, stx_28, spx_29, pex_30, idlx_31, idnx_32, uZ pw x1 x2, uZ co x1 x3, uZ la x1 x4) hx hb hr hP hD hS hlocks dX8_setState_81 (by first | (exact Or.inl (⟨by omega, by (first | rfl | (rw [b2i_t (by omega)]; done) | (rw [b2i_f (by omega)]; done) | (rw [b2i_t (by omega)]; rfl) | (rw [b2i_f (by omega)]; rfl)), by exact hsc9, by rfl, by rfl, by rfl⟩)) | (exact Or.inr (⟨by omega, by (first | rfl | (rw [b2i_t (by omega)]; done) | (rw [b2i_f (by omega)]; done) | (rw [b2i_t (by omega)]; rfl) | (rw [b2i_f (by omega)]; rfl)), rfl, rfl, rfl, rfl, rfl, rfl, rfl, rfl⟩)))
          · skip
            exact absurd c_24 (by decide)
def rmX8_setAwake : Room := { frames := 2, cells := 0, slots := 0, locals := 42 }
set_option maxRecDepth 100000 in
set_option maxHeartbeats 4000000 in
theorem kX8_setAwake (l : Launch) (dC : Nat → ClassId) (dI : Nat → Nat → Nat) (cI cJ cZ : ClassId) (q : Nat → Nat)  (pw : Int → Int) (co : Int → Int) (la : Int → Int) (vo : Int → Int) (nC : Int) (par : Int → Int) (div : Int → Int) (dee : Int → Int) (use : Int → Int) (mrun : Int → Int) (nT : Int) (due : Int → Int) (lat : Int → Int) (wk : Int → Int) (nE : Int) (tk : Int → Int) (ld : Int → Int) (rule : Int) (now : Int) (st : Int) (asl : Int) (idn : Int) (idl : Int → Int) (sp : Int) (pe : Int) (tin : Int → Int) (slp : Int) (late : Int) (srv : Int) (hv : Int → Int) (av : Int) (bd : Int) (sh : Int) (mL : Int → Int) (mB : Int → Int) (thr : Int) (x1 : Int) (hx1 : zR x1) (hst : 0 ≤ st ∧ st ≤ 3) (hpw : rgZ pw 4 1000) (hco : rgZ co 4 10000) (hla : rgZ la 4 100) (hidn : 0 ≤ idn ∧ idn ≤ 2000000) (hidl : rgZ idl 4 1000000) : zMi l yX8_setAwake wsX8_setAwake rmX8_setAwake (dC, dI) (zT cI cJ cZ) (wM cI cJ cZ q pw co la vo nC par div dee use mrun nT due lat wk nE tk ld rule now st asl idn idl sp pe tin slp late srv hv av bd sh mL mB thr) [.ref (q 0), .int (iI x1)] (fun (r9 : Int) (u9 : Int × Int × Int × Int × Int × (Int → Int) × Int × (Int → Int)) => r9 = (u9.1) ∧ (((0 ≤ x1 ∧ x1 ≤ 1000) ∧ (u9.2.1) = 0 ∧ (u9.1) = pw 0 ∧ ((u9.2.2.1), (u9.2.2.2.1), (u9.2.2.2.2.1), (u9.2.2.2.2.2.1), (u9.2.2.2.2.2.2.1)) = scF pw la st asl now sp pe idl idn ∧ (u9.2.2.2.2.2.2.2) = uZ pw 0 x1) ∨ (¬ (0 ≤ x1 ∧ x1 ≤ 1000) ∧ (u9.2.1) = 1 ∧ (u9.2.2.1) = st ∧ (u9.2.2.2.1) = sp ∧ (u9.2.2.2.2.1) = pe ∧ (u9.2.2.2.2.2.1) = idl ∧ (u9.2.2.2.2.2.2.1) = idn ∧ (u9.2.2.2.2.2.2.2) = pw))) (fun u9 : Int × Int × Int × Int × Int × (Int → Int) × Int × (Int → Int) => wM cI cJ cZ q (u9.2.2.2.2.2.2.2) co la vo nC par div dee use mrun nT due lat wk nE tk ld rule now (u9.2.2.1) asl (u9.2.2.2.2.2.2.1) (u9.2.2.2.2.2.1) (u9.2.2.2.1) (u9.2.2.2.2.1) tin slp late srv hv av bd sh mL mB (u9.2.1)) 0 0 := by
  refine zent_i (cc := cX8_setAwake) (maxL := 3) (ret := (some .int)) (by decide +kernel) rfl (Nat.le_of_ble_eq_true rfl) ?_
  intro p e s m below meth c A ls hE hP hK hA hD hS hl
  obtain ⟨hx, hb, hr, hml, hown, hts, hlocks, hmn⟩ := hE
  have hinX8 : ∀ w ∈ u_ws RX8 TX8 36, w ∈ wsX8_setAwake := by decide +kernel
  have hl : lv_has ls 3 [(0, .ref (q 0)), (1, .int (iI x1))] := hl
  refine z_gen (fun Q hQ => ?_)
  refine lv_aload_n hx hb dX8_setAwake_0 rfl (lv_at hl 0 rfl) ?_
  refine lv_iload_n hx hb dX8_setAwake_1 rfl (lv_at hl 1 rfl) ?_
  refine lv_iconst (v := iI 0) hx hb dX8_setAwake_2 rfl ?_
  refine lv_sipush (v := iI 1000) hx hb dX8_setAwake_3 (by decide) ?_
  refine zc_pi (va_runS (As := [.int (iI x1), .int (iI 0), .int (iI 1000)]) (rest := [.ref (q 0)]) ⟨hx, hb, hml, hown, hts⟩ (kX8_in l dC dI cI cJ cZ x1 0 1000 (by first | assumption | omega | exact b2i_01 _) (by first | assumption | omega | exact b2i_01 _) (by first | assumption | omega | exact b2i_01 _)) (va_cwS 3 hts gX8_setAwake_X8_in rfl rfl rfl (by decide +kernel) ⟨Nat.le_of_ble_eq_true rfl, Nat.le_of_ble_eq_true rfl⟩) (zqS hK hP [] rfl) rfl rfl hl.1 rfl (lv_room (Nat.le_of_ble_eq_true rfl)) dX8_setAwake_6 ⟨Nat.le_of_ble_eq_true rfl, Nat.le_of_ble_eq_true rfl⟩) ?_
  refine zc_i (va_runV (As := [.int (iI (b2i (0 ≤ x1 ∧ x1 ≤ 1000)))]) (rest := []) ⟨hx, hb, hml, hown, hts⟩ (kX8_asks l dC dI cI cJ cZ q pw co la vo nC par div dee use mrun nT due lat wk nE tk ld rule now st asl idn idl sp pe tin slp late srv hv av bd sh mL mB thr (b2i (0 ≤ x1 ∧ x1 ≤ 1000)) (by first | assumption | omega | exact b2i_01 _) s.heap.size) (cwV 1 hts gX8_setAwake_X8_asks rfl rfl rfl (by decide +kernel) ⟨Nat.le_of_ble_eq_true rfl, Nat.le_of_ble_eq_true rfl⟩) (zpV hK hP hD [0, 1, 2, 3, 4, 5, 6, 7, 8, 9, 10, 11, 12, 13, 14, 15, 16, 17, 18, 19] rfl rfl 0 rfl rfl) rfl rfl hl.1 rfl (lv_room (Nat.le_of_ble_eq_true rfl)) dX8_setAwake_9 ⟨Nat.le_of_ble_eq_true rfl, Nat.le_of_ble_eq_true rfl⟩) hP hD hS hA [0, 1, 2, 3, 4, 5, 6, 7, 8, 9, 10, 11, 12, 13, 14, 15, 16, 17, 18, 19] [] rfl rfl rfl (by decide) (fun v_3 u_2 H locs r_1 hP hD hS => ?_)
  refine ze_i r_1 ?_
  have hP : va_P (dC, dI) vwCl (wM cI cJ cZ q pw co la vo nC par div dee use mrun nT due lat wk nE tk ld rule now st asl idn idl sp pe tin slp late srv hv av bd sh mL mB (1 - (b2i (0 ≤ x1 ∧ x1 ≤ 1000)))) H := hP
  have hD : va_D A (wM cI cJ cZ q pw co la vo nC par div dee use mrun nT due lat wk nE tk ld rule now st asl idn idl sp pe tin slp late srv hv av bd sh mL mB (1 - (b2i (0 ≤ x1 ∧ x1 ≤ 1000)))) := hD
  refine zb_fne (tgt := 17) hx hb dX8_setAwake_12 (by decide) (fun c_4 => ?_) (fun c_4 => ?_)
  · skip
    refine lv_aload_n hx hb dX8_setAwake_17 rfl (lv_at hl 0 rfl) ?_
    refine zc_v (va_runV (As := []) (rest := []) ⟨hx, hb, hml, hown, hts⟩ (kX8_stirs l dC dI cI cJ cZ q pw co la vo nC par div dee use mrun nT due lat wk nE tk ld rule now st asl idn idl sp pe tin slp late srv hv av bd sh mL mB (1 - (b2i (0 ≤ x1 ∧ x1 ≤ 1000))) (by first | assumption | omega | exact b2i_01 _) (by first | assumption | omega | exact b2i_01 _) (by first | assumption | omega | exact b2i_01 _) (by first | assumption | omega | exact b2i_01 _) (by first | assumption | omega | exact b2i_01 _) (by first | assumption | omega | exact b2i_01 _) H.size) (cwV 0 hts gX8_setAwake_X8_stirs rfl rfl rfl (by decide +kernel) ⟨Nat.le_of_ble_eq_true rfl, Nat.le_of_ble_eq_true rfl⟩) (zpV hK hP hD [0, 1, 2, 3, 4, 5, 6, 7, 8, 9, 10, 11, 12, 13, 14, 15, 16, 17, 18, 19] rfl rfl 0 rfl rfl) rfl rfl hl.1 rfl (lv_room (Nat.le_of_ble_eq_true rfl)) dX8_setAwake_18 ⟨Nat.le_of_ble_eq_true rfl, Nat.le_of_ble_eq_true rfl⟩) hP hD hS hA [0, 1, 2, 3, 4, 5, 6, 7, 8, 9, 10, 11, 12, 13, 14, 15, 16, 17, 18, 19] [] rfl rfl rfl (by decide) (fun u_6 H locs r_5 hP hD hS => ?_)
    obtain ⟨stx_8, spx_9, pex_10, idlx_11, idnx_12⟩ := u_6
    have r_5 : (stx_8, spx_9, pex_10, idlx_11, idnx_12) = scF pw la st asl now sp pe idl idn := r_5
    have hP : va_P (dC, dI) vwCl (wM cI cJ cZ q pw co la vo nC par div dee use mrun nT due lat wk nE tk ld rule now stx_8 asl idnx_12 idlx_11 spx_9 pex_10 tin slp late srv hv av bd sh mL mB (1 - (b2i (0 ≤ x1 ∧ x1 ≤ 1000)))) H := hP
    have hD : va_D A (wM cI cJ cZ q pw co la vo nC par div dee use mrun nT due lat wk nE tk ld rule now stx_8 asl idnx_12 idlx_11 spx_9 pex_10 tin slp late srv hv av bd sh mL mB (1 - (b2i (0 ≤ x1 ∧ x1 ≤ 1000)))) := hD
    have hsc9 := r_5
    refine lv_aload_n hx hb dX8_setAwake_21 rfl (lv_at hl 0 rfl) ?_
    refine va_get (D := (dC, dI)) (ci := 8) (v := .ref (q 1)) (C := RX8) (T := TX8) (N := 36) hx hb hts hinX8 hown hK.1 hP 0 rfl rfl 0 (by decide) (hts _ (List.mem_of_getElem? (i := 1) rfl)) (fun _ h9 => h9) rfl dX8_setAwake_22 ?_
    refine lv_iconst (v := iI 0) hx hb dX8_setAwake_25 rfl ?_
    refine za_ld hx hb hK hP 1 0 rfl rfl (by omega) (by omega) dX8_setAwake_26 ?_
    have e_13 := hpw 0 (by omega) (by omega)
    refine lv_istore_n (lv' := [(2, .int (iI (pw 0))), (0, .ref (q 0)), (1, .int (iI x1))]) hx hb dX8_setAwake_27 rfl hl (by decide) rfl (fun ls hl => ?_)
    refine lv_aload_n hx hb dX8_setAwake_28 rfl (lv_at hl 1 rfl) ?_
    refine va_get (D := (dC, dI)) (ci := 8) (v := .ref (q 1)) (C := RX8) (T := TX8) (N := 36) hx hb hts hinX8 hown hK.1 hP 0 rfl rfl 0 (by decide) (hts _ (List.mem_of_getElem? (i := 1) rfl)) (fun _ h9 => h9) rfl dX8_setAwake_29 ?_
    refine lv_iconst (v := iI 0) hx hb dX8_setAwake_32 rfl ?_
    refine lv_iload_n hx hb dX8_setAwake_33 rfl (lv_at hl 2 rfl) ?_
    refine za_st hx hb hK hP hD hS 1 0 rfl rfl (by omega) (by omega) dX8_setAwake_34 (fun H locs hP hD hS => ?_)
    have hP : va_P (dC, dI) vwCl (wM cI cJ cZ q (uZ pw 0 x1) co la vo nC par div dee use mrun nT due lat wk nE tk ld rule now stx_8 asl idnx_12 idlx_11 spx_9 pex_10 tin slp late srv hv av bd sh mL mB (1 - (b2i (0 ≤ x1 ∧ x1 ≤ 1000)))) H := hP
    have hD : va_D A (wM cI cJ cZ q (uZ pw 0 x1) co la vo nC par div dee use mrun nT due lat wk nE tk ld rule now stx_8 asl idnx_12 idlx_11 spx_9 pex_10 tin slp late srv hv av bd sh mL mB (1 - (b2i (0 ≤ x1 ∧ x1 ≤ 1000)))) := hD
    refine lv_iload_n hx hb dX8_setAwake_35 rfl (lv_at hl 0 rfl) ?_
    subst hQ
    exact zret_i (W1 := fun u9 : Int × Int × Int × Int × Int × (Int → Int) × Int × (Int → Int) => wM cI cJ cZ q (u9.2.2.2.2.2.2.2) co la vo nC par div dee use mrun nT due lat wk nE tk ld rule now (u9.2.2.1) asl (u9.2.2.2.2.2.2.1) (u9.2.2.2.2.2.1) (u9.2.2.2.1) (u9.2.2.2.2.1) tin slp late srv hv av bd sh mL mB (u9.2.1)) (pw 0, 1 - (b2i (0 ≤ x1 ∧ x1 ≤ 1000)), stx_8, spx_9, pex_10, idlx_11, idnx_12, uZ pw 0 x1) hx hb hr hP hD hS hlocks dX8_setAwake_36 (by first | (exact ⟨rfl, Or.inl (⟨by omega, by (first | rfl | (rw [b2i_t (by omega)]; done) | (rw [b2i_f (by omega)]; done) | (rw [b2i_t (by omega)]; rfl) | (rw [b2i_f (by omega)]; rfl)), by first | rfl | omega, by exact hsc9, by rfl⟩)⟩) | (exact ⟨rfl, Or.inr (⟨by omega, by (first | rfl | (rw [b2i_t (by omega)]; done) | (rw [b2i_f (by omega)]; done) | (rw [b2i_t (by omega)]; rfl) | (rw [b2i_f (by omega)]; rfl)), rfl, rfl, rfl, rfl, rfl, rfl⟩)⟩))
  · skip
    refine lv_iconst (v := iI 0) hx hb dX8_setAwake_15 rfl ?_
    subst hQ
    exact zret_i (W1 := fun u9 : Int × Int × Int × Int × Int × (Int → Int) × Int × (Int → Int) => wM cI cJ cZ q (u9.2.2.2.2.2.2.2) co la vo nC par div dee use mrun nT due lat wk nE tk ld rule now (u9.2.2.1) asl (u9.2.2.2.2.2.2.1) (u9.2.2.2.2.2.1) (u9.2.2.2.1) (u9.2.2.2.2.1) tin slp late srv hv av bd sh mL mB (u9.2.1)) (0, 1 - (b2i (0 ≤ x1 ∧ x1 ≤ 1000)), st, sp, pe, idl, idn, pw) hx hb hr hP hD hS hlocks dX8_setAwake_16 (by first | (exact ⟨rfl, Or.inl (⟨by omega, by (first | rfl | (rw [b2i_t (by omega)]; done) | (rw [b2i_f (by omega)]; done) | (rw [b2i_t (by omega)]; rfl) | (rw [b2i_f (by omega)]; rfl)), by first | rfl | omega, by exact hsc9, by rfl⟩)⟩) | (exact ⟨rfl, Or.inr (⟨by omega, by (first | rfl | (rw [b2i_t (by omega)]; done) | (rw [b2i_f (by omega)]; done) | (rw [b2i_t (by omega)]; rfl) | (rw [b2i_f (by omega)]; rfl)), rfl, rfl, rfl, rfl, rfl, rfl⟩)⟩))
def rmX8_vote : Room := { frames := 2, cells := 0, slots := 0, locals := 42 }
set_option maxRecDepth 100000 in
set_option maxHeartbeats 4000000 in
theorem kX8_vote (l : Launch) (dC : Nat → ClassId) (dI : Nat → Nat → Nat) (cI cJ cZ : ClassId) (q : Nat → Nat)  (pw : Int → Int) (co : Int → Int) (la : Int → Int) (vo : Int → Int) (nC : Int) (par : Int → Int) (div : Int → Int) (dee : Int → Int) (use : Int → Int) (mrun : Int → Int) (nT : Int) (due : Int → Int) (lat : Int → Int) (wk : Int → Int) (nE : Int) (tk : Int → Int) (ld : Int → Int) (rule : Int) (now : Int) (st : Int) (asl : Int) (idn : Int) (idl : Int → Int) (sp : Int) (pe : Int) (tin : Int → Int) (slp : Int) (late : Int) (srv : Int) (hv : Int → Int) (av : Int) (bd : Int) (sh : Int) (mL : Int → Int) (mB : Int → Int) (thr : Int) (x1 x2 : Int) (hx1 : zR x1) (hx2 : zR x2) (hst : 0 ≤ st ∧ st ≤ 3) (hpw : rgZ pw 4 1000) (hco : rgZ co 4 10000) (hla : rgZ la 4 100) (hidn : 0 ≤ idn ∧ idn ≤ 2000000) (hidl : rgZ idl 4 1000000) : zMi l yX8_vote wsX8_vote rmX8_vote (dC, dI) (zT cI cJ cZ) (wM cI cJ cZ q pw co la vo nC par div dee use mrun nT due lat wk nE tk ld rule now st asl idn idl sp pe tin slp late srv hv av bd sh mL mB thr) [.ref (q 0), .int (iI x1), .int (iI x2)] (fun (r9 : Int) (u9 : Int × Int × Int × Int × Int × (Int → Int) × Int × (Int → Int)) => r9 = (u9.1) ∧ ((((0 ≤ x1 ∧ x1 ≤ 5) ∧ (0 ≤ x2 ∧ x2 ≤ 3)) ∧ (u9.2.1) = 0 ∧ (u9.1) = vo x1 ∧ ((u9.2.2.1), (u9.2.2.2.1), (u9.2.2.2.2.1), (u9.2.2.2.2.2.1), (u9.2.2.2.2.2.2.1)) = scF pw la st asl now sp pe idl idn ∧ (u9.2.2.2.2.2.2.2) = uZ vo x1 x2) ∨ (¬ ((0 ≤ x1 ∧ x1 ≤ 5) ∧ (0 ≤ x2 ∧ x2 ≤ 3)) ∧ (u9.2.1) = 1 ∧ (u9.2.2.1) = st ∧ (u9.2.2.2.1) = sp ∧ (u9.2.2.2.2.1) = pe ∧ (u9.2.2.2.2.2.1) = idl ∧ (u9.2.2.2.2.2.2.1) = idn ∧ (u9.2.2.2.2.2.2.2) = vo))) (fun u9 : Int × Int × Int × Int × Int × (Int → Int) × Int × (Int → Int) => wM cI cJ cZ q pw co la (u9.2.2.2.2.2.2.2) nC par div dee use mrun nT due lat wk nE tk ld rule now (u9.2.2.1) asl (u9.2.2.2.2.2.2.1) (u9.2.2.2.2.2.1) (u9.2.2.2.1) (u9.2.2.2.2.1) tin slp late srv hv av bd sh mL mB (u9.2.1)) 0 0 := by
  refine zent_i (cc := cX8_vote) (maxL := 4) (ret := (some .int)) (by decide +kernel) rfl (Nat.le_of_ble_eq_true rfl) ?_
  intro p e s m below meth c A ls hE hP hK hA hD hS hl
  obtain ⟨hx, hb, hr, hml, hown, hts, hlocks, hmn⟩ := hE
  have hinX8 : ∀ w ∈ u_ws RX8 TX8 36, w ∈ wsX8_vote := by decide +kernel
  have hl : lv_has ls 4 [(0, .ref (q 0)), (1, .int (iI x1)), (2, .int (iI x2))] := hl
  refine z_gen (fun Q hQ => ?_)
  refine lv_aload_n hx hb dX8_vote_0 rfl (lv_at hl 0 rfl) ?_
  refine lv_iload_n hx hb dX8_vote_1 rfl (lv_at hl 1 rfl) ?_
  refine lv_iconst (v := iI 0) hx hb dX8_vote_2 rfl ?_
  refine lv_iconst (v := iI 5) hx hb dX8_vote_3 rfl ?_
  refine zc_pi (va_runS (As := [.int (iI x1), .int (iI 0), .int (iI 5)]) (rest := [.ref (q 0)]) ⟨hx, hb, hml, hown, hts⟩ (kX8_in l dC dI cI cJ cZ x1 0 5 (by first | assumption | omega | exact b2i_01 _) (by first | assumption | omega | exact b2i_01 _) (by first | assumption | omega | exact b2i_01 _)) (va_cwS 3 hts gX8_vote_X8_in rfl rfl rfl (by decide +kernel) ⟨Nat.le_of_ble_eq_true rfl, Nat.le_of_ble_eq_true rfl⟩) (zqS hK hP [] rfl) rfl rfl hl.1 rfl (lv_room (Nat.le_of_ble_eq_true rfl)) dX8_vote_4 ⟨Nat.le_of_ble_eq_true rfl, Nat.le_of_ble_eq_true rfl⟩) ?_
  refine zb_feq (tgt := 23) hx hb dX8_vote_7 (by decide) (fun c_1 => ?_) (fun c_1 => ?_)
  · skip
    refine lv_iconst (v := iI 0) hx hb dX8_vote_23 rfl ?_
    refine zc_i (va_runV (As := [.int (iI 0)]) (rest := []) ⟨hx, hb, hml, hown, hts⟩ (kX8_asks l dC dI cI cJ cZ q pw co la vo nC par div dee use mrun nT due lat wk nE tk ld rule now st asl idn idl sp pe tin slp late srv hv av bd sh mL mB thr 0 (by first | assumption | omega | exact b2i_01 _) s.heap.size) (cwV 1 hts gX8_vote_X8_asks rfl rfl rfl (by decide +kernel) ⟨Nat.le_of_ble_eq_true rfl, Nat.le_of_ble_eq_true rfl⟩) (zpV hK hP hD [0, 1, 2, 3, 4, 5, 6, 7, 8, 9, 10, 11, 12, 13, 14, 15, 16, 17, 18, 19] rfl rfl 0 rfl rfl) rfl rfl hl.1 rfl (lv_room (Nat.le_of_ble_eq_true rfl)) dX8_vote_24 ⟨Nat.le_of_ble_eq_true rfl, Nat.le_of_ble_eq_true rfl⟩) hP hD hS hA [0, 1, 2, 3, 4, 5, 6, 7, 8, 9, 10, 11, 12, 13, 14, 15, 16, 17, 18, 19] [] rfl rfl rfl (by decide) (fun v_4 u_3 H locs r_2 hP hD hS => ?_)
    refine ze_i r_2 ?_
    have hP : va_P (dC, dI) vwCl (wM cI cJ cZ q pw co la vo nC par div dee use mrun nT due lat wk nE tk ld rule now st asl idn idl sp pe tin slp late srv hv av bd sh mL mB (1 - 0)) H := hP
    have hD : va_D A (wM cI cJ cZ q pw co la vo nC par div dee use mrun nT due lat wk nE tk ld rule now st asl idn idl sp pe tin slp late srv hv av bd sh mL mB (1 - 0)) := hD
    refine zi_fne (tgt := 32) hx hb (by decide) dX8_vote_27 (by decide) (fun c_5 => ?_) (fun c_5 => ?_)
    · skip
      exact absurd c_5 (by decide)
    · skip
      refine lv_iconst (v := iI 0) hx hb dX8_vote_30 rfl ?_
      subst hQ
      exact zret_i (W1 := fun u9 : Int × Int × Int × Int × Int × (Int → Int) × Int × (Int → Int) => wM cI cJ cZ q pw co la (u9.2.2.2.2.2.2.2) nC par div dee use mrun nT due lat wk nE tk ld rule now (u9.2.2.1) asl (u9.2.2.2.2.2.2.1) (u9.2.2.2.2.2.1) (u9.2.2.2.1) (u9.2.2.2.2.1) tin slp late srv hv av bd sh mL mB (u9.2.1)) (0, 1 - 0, st, sp, pe, idl, idn, vo) hx hb hr hP hD hS hlocks dX8_vote_31 (by first | (exact ⟨rfl, Or.inl (⟨by omega, by (first | rfl | (rw [b2i_t (by omega)]; done) | (rw [b2i_f (by omega)]; done) | (rw [b2i_t (by omega)]; rfl) | (rw [b2i_f (by omega)]; rfl)), by first | rfl | omega, by exact hsc9, by rfl⟩)⟩) | (exact ⟨rfl, Or.inr (⟨by omega, by (first | rfl | (rw [b2i_t (by omega)]; done) | (rw [b2i_f (by omega)]; done) | (rw [b2i_t (by omega)]; rfl) | (rw [b2i_f (by omega)]; rfl)), rfl, rfl, rfl, rfl, rfl, rfl⟩)⟩))
  · skip
    refine lv_iload_n hx hb dX8_vote_10 rfl (lv_at hl 2 rfl) ?_
    refine lv_iconst (v := iI 0) hx hb dX8_vote_11 rfl ?_
    refine lv_iconst (v := iI 3) hx hb dX8_vote_12 rfl ?_
    refine zc_pi (va_runS (As := [.int (iI x2), .int (iI 0), .int (iI 3)]) (rest := [.ref (q 0)]) ⟨hx, hb, hml, hown, hts⟩ (kX8_in l dC dI cI cJ cZ x2 0 3 (by first | assumption | omega | exact b2i_01 _) (by first | assumption | omega | exact b2i_01 _) (by first | assumption | omega | exact b2i_01 _)) (va_cwS 3 hts gX8_vote_X8_in rfl rfl rfl (by decide +kernel) ⟨Nat.le_of_ble_eq_true rfl, Nat.le_of_ble_eq_true rfl⟩) (zqS hK hP [] rfl) rfl rfl hl.1 rfl (lv_room (Nat.le_of_ble_eq_true rfl)) dX8_vote_13 ⟨Nat.le_of_ble_eq_true rfl, Nat.le_of_ble_eq_true rfl⟩) ?_
    refine zb_feq (tgt := 23) hx hb dX8_vote_16 (by decide) (fun c_6 => ?_) (fun c_6 => ?_)
    · skip
      refine lv_iconst (v := iI 0) hx hb dX8_vote_23 rfl ?_
      refine zc_i (va_runV (As := [.int (iI 0)]) (rest := []) ⟨hx, hb, hml, hown, hts⟩ (kX8_asks l dC dI cI cJ cZ q pw co la vo nC par div dee use mrun nT due lat wk nE tk ld rule now st asl idn idl sp pe tin slp late srv hv av bd sh mL mB thr 0 (by first | assumption | omega | exact b2i_01 _) s.heap.size) (cwV 1 hts gX8_vote_X8_asks rfl rfl rfl (by decide +kernel) ⟨Nat.le_of_ble_eq_true rfl, Nat.le_of_ble_eq_true rfl⟩) (zpV hK hP hD [0, 1, 2, 3, 4, 5, 6, 7, 8, 9, 10, 11, 12, 13, 14, 15, 16, 17, 18, 19] rfl rfl 0 rfl rfl) rfl rfl hl.1 rfl (lv_room (Nat.le_of_ble_eq_true rfl)) dX8_vote_24 ⟨Nat.le_of_ble_eq_true rfl, Nat.le_of_ble_eq_true rfl⟩) hP hD hS hA [0, 1, 2, 3, 4, 5, 6, 7, 8, 9, 10, 11, 12, 13, 14, 15, 16, 17, 18, 19] [] rfl rfl rfl (by decide) (fun v_9 u_8 H locs r_7 hP hD hS => ?_)
      refine ze_i r_7 ?_
      have hP : va_P (dC, dI) vwCl (wM cI cJ cZ q pw co la vo nC par div dee use mrun nT due lat wk nE tk ld rule now st asl idn idl sp pe tin slp late srv hv av bd sh mL mB (1 - 0)) H := hP
      have hD : va_D A (wM cI cJ cZ q pw co la vo nC par div dee use mrun nT due lat wk nE tk ld rule now st asl idn idl sp pe tin slp late srv hv av bd sh mL mB (1 - 0)) := hD
      refine zi_fne (tgt := 32) hx hb (by decide) dX8_vote_27 (by decide) (fun c_10 => ?_) (fun c_10 => ?_)
      · skip
        exact absurd c_10 (by decide)
      · skip
        refine lv_iconst (v := iI 0) hx hb dX8_vote_30 rfl ?_
        subst hQ
        exact zret_i (W1 := fun u9 : Int × Int × Int × Int × Int × (Int → Int) × Int × (Int → Int) => wM cI cJ cZ q pw co la (u9.2.2.2.2.2.2.2) nC par div dee use mrun nT due lat wk nE tk ld rule now (u9.2.2.1) asl (u9.2.2.2.2.2.2.1) (u9.2.2.2.2.2.1) (u9.2.2.2.1) (u9.2.2.2.2.1) tin slp late srv hv av bd sh mL mB (u9.2.1)) (0, 1 - 0, st, sp, pe, idl, idn, vo) hx hb hr hP hD hS hlocks dX8_vote_31 (by first | (exact ⟨rfl, Or.inl (⟨by omega, by (first | rfl | (rw [b2i_t (by omega)]; done) | (rw [b2i_f (by omega)]; done) | (rw [b2i_t (by omega)]; rfl) | (rw [b2i_f (by omega)]; rfl)), by first | rfl | omega, by exact hsc9, by rfl⟩)⟩) | (exact ⟨rfl, Or.inr (⟨by omega, by (first | rfl | (rw [b2i_t (by omega)]; done) | (rw [b2i_f (by omega)]; done) | (rw [b2i_t (by omega)]; rfl) | (rw [b2i_f (by omega)]; rfl)), rfl, rfl, rfl, rfl, rfl, rfl⟩)⟩))
    · skip
      refine lv_iconst (v := iI 1) hx hb dX8_vote_19 rfl ?_
      refine lv_goto (tgt := 24) hx hb dX8_vote_20 (by decide) ?_
      refine zc_i (va_runV (As := [.int (iI 1)]) (rest := []) ⟨hx, hb, hml, hown, hts⟩ (kX8_asks l dC dI cI cJ cZ q pw co la vo nC par div dee use mrun nT due lat wk nE tk ld rule now st asl idn idl sp pe tin slp late srv hv av bd sh mL mB thr 1 (by first | assumption | omega | exact b2i_01 _) s.heap.size) (cwV 1 hts gX8_vote_X8_asks rfl rfl rfl (by decide +kernel) ⟨Nat.le_of_ble_eq_true rfl, Nat.le_of_ble_eq_true rfl⟩) (zpV hK hP hD [0, 1, 2, 3, 4, 5, 6, 7, 8, 9, 10, 11, 12, 13, 14, 15, 16, 17, 18, 19] rfl rfl 0 rfl rfl) rfl rfl hl.1 rfl (lv_room (Nat.le_of_ble_eq_true rfl)) dX8_vote_24 ⟨Nat.le_of_ble_eq_true rfl, Nat.le_of_ble_eq_true rfl⟩) hP hD hS hA [0, 1, 2, 3, 4, 5, 6, 7, 8, 9, 10, 11, 12, 13, 14, 15, 16, 17, 18, 19] [] rfl rfl rfl (by decide) (fun v_13 u_12 H locs r_11 hP hD hS => ?_)
      refine ze_i r_11 ?_
      have hP : va_P (dC, dI) vwCl (wM cI cJ cZ q pw co la vo nC par div dee use mrun nT due lat wk nE tk ld rule now st asl idn idl sp pe tin slp late srv hv av bd sh mL mB (1 - 1)) H := hP
      have hD : va_D A (wM cI cJ cZ q pw co la vo nC par div dee use mrun nT due lat wk nE tk ld rule now st asl idn idl sp pe tin slp late srv hv av bd sh mL mB (1 - 1)) := hD
      refine zi_fne (tgt := 32) hx hb (by decide) dX8_vote_27 (by decide) (fun c_14 => ?_) (fun c_14 => ?_)
      · skip
        refine lv_aload_n hx hb dX8_vote_32 rfl (lv_at hl 0 rfl) ?_
        refine zc_v (va_runV (As := []) (rest := []) ⟨hx, hb, hml, hown, hts⟩ (kX8_stirs l dC dI cI cJ cZ q pw co la vo nC par div dee use mrun nT due lat wk nE tk ld rule now st asl idn idl sp pe tin slp late srv hv av bd sh mL mB (1 - 1) (by first | assumption | omega | exact b2i_01 _) (by first | assumption | omega | exact b2i_01 _) (by first | assumption | omega | exact b2i_01 _) (by first | assumption | omega | exact b2i_01 _) (by first | assumption | omega | exact b2i_01 _) (by first | assumption | omega | exact b2i_01 _) H.size) (cwV 0 hts gX8_vote_X8_stirs rfl rfl rfl (by decide +kernel) ⟨Nat.le_of_ble_eq_true rfl, Nat.le_of_ble_eq_true rfl⟩) (zpV hK hP hD [0, 1, 2, 3, 4, 5, 6, 7, 8, 9, 10, 11, 12, 13, 14, 15, 16, 17, 18, 19] rfl rfl 0 rfl rfl) rfl rfl hl.1 rfl (lv_room (Nat.le_of_ble_eq_true rfl)) dX8_vote_33 ⟨Nat.le_of_ble_eq_true rfl, Nat.le_of_ble_eq_true rfl⟩) hP hD hS hA [0, 1, 2, 3, 4, 5, 6, 7, 8, 9, 10, 11, 12, 13, 14, 15, 16, 17, 18, 19] [] rfl rfl rfl (by decide) (fun u_16 H locs r_15 hP hD hS => ?_)
        obtain ⟨stx_18, spx_19, pex_20, idlx_21, idnx_22⟩ := u_16
        have r_15 : (stx_18, spx_19, pex_20, idlx_21, idnx_22) = scF pw la st asl now sp pe idl idn := r_15
        have hP : va_P (dC, dI) vwCl (wM cI cJ cZ q pw co la vo nC par div dee use mrun nT due lat wk nE tk ld rule now stx_18 asl idnx_22 idlx_21 spx_19 pex_20 tin slp late srv hv av bd sh mL mB (1 - 1)) H := hP
        have hD : va_D A (wM cI cJ cZ q pw co la vo nC par div dee use mrun nT due lat wk nE tk ld rule now stx_18 asl idnx_22 idlx_21 spx_19 pex_20 tin slp late srv hv av bd sh mL mB (1 - 1)) := hD
        have hsc9 := r_15
        refine lv_aload_n hx hb dX8_vote_36 rfl (lv_at hl 0 rfl) ?_
        refine va_get (D := (dC, dI)) (ci := 8) (v := .ref (q 4)) (C := RX8) (T := TX8) (N := 36) hx hb hts hinX8 hown hK.1 hP 0 rfl rfl 3 (by decide) (hts _ (List.mem_of_getElem? (i := 1) rfl)) (fun _ h9 => h9) rfl dX8_vote_37 ?_
        refine lv_iload_n hx hb dX8_vote_40 rfl (lv_at hl 1 rfl) ?_
        refine za_ld hx hb hK hP 4 0 rfl rfl (by omega) (by omega) dX8_vote_41 ?_
        refine lv_istore_n (lv' := [(3, .int (iI (vo x1))), (0, .ref (q 0)), (1, .int (iI x1)), (2, .int (iI x2))]) hx hb dX8_vote_42 rfl hl (by decide) rfl (fun ls hl => ?_)
        refine lv_aload_n hx hb dX8_vote_43 rfl (lv_at hl 1 rfl) ?_
        refine va_get (D := (dC, dI)) (ci := 8) (v := .ref (q 4)) (C := RX8) (T := TX8) (N := 36) hx hb hts hinX8 hown hK.1 hP 0 rfl rfl 3 (by decide) (hts _ (List.mem_of_getElem? (i := 1) rfl)) (fun _ h9 => h9) rfl dX8_vote_44 ?_
        refine lv_iload_n hx hb dX8_vote_47 rfl (lv_at hl 2 rfl) ?_
        refine lv_iload_n hx hb dX8_vote_48 rfl (lv_at hl 3 rfl) ?_
        refine za_st hx hb hK hP hD hS 4 0 rfl rfl (by omega) (by omega) dX8_vote_49 (fun H locs hP hD hS => ?_)
        have hP : va_P (dC, dI) vwCl (wM cI cJ cZ q pw co la (uZ vo x1 x2) nC par div dee use mrun nT due lat wk nE tk ld rule now stx_18 asl idnx_22 idlx_21 spx_19 pex_20 tin slp late srv hv av bd sh mL mB (1 - 1)) H := hP
        have hD : va_D A (wM cI cJ cZ q pw co la (uZ vo x1 x2) nC par div dee use mrun nT due lat wk nE tk ld rule now stx_18 asl idnx_22 idlx_21 spx_19 pex_20 tin slp late srv hv av bd sh mL mB (1 - 1)) := hD
        refine lv_iload_n hx hb dX8_vote_50 rfl (lv_at hl 0 rfl) ?_
        subst hQ
        exact zret_i (W1 := fun u9 : Int × Int × Int × Int × Int × (Int → Int) × Int × (Int → Int) => wM cI cJ cZ q pw co la (u9.2.2.2.2.2.2.2) nC par div dee use mrun nT due lat wk nE tk ld rule now (u9.2.2.1) asl (u9.2.2.2.2.2.2.1) (u9.2.2.2.2.2.1) (u9.2.2.2.1) (u9.2.2.2.2.1) tin slp late srv hv av bd sh mL mB (u9.2.1)) (vo x1, 1 - 1, stx_18, spx_19, pex_20, idlx_21, idnx_22, uZ vo x1 x2) hx hb hr hP hD hS hlocks dX8_vote_51 (by first | (exact ⟨rfl, Or.inl (⟨by omega, by (first | rfl | (rw [b2i_t (by omega)]; done) | (rw [b2i_f (by omega)]; done) | (rw [b2i_t (by omega)]; rfl) | (rw [b2i_f (by omega)]; rfl)), by first | rfl | omega, by exact hsc9, by rfl⟩)⟩) | (exact ⟨rfl, Or.inr (⟨by omega, by (first | rfl | (rw [b2i_t (by omega)]; done) | (rw [b2i_f (by omega)]; done) | (rw [b2i_t (by omega)]; rfl) | (rw [b2i_f (by omega)]; rfl)), rfl, rfl, rfl, rfl, rfl, rfl⟩)⟩))
      · skip
        exact absurd c_14 (by decide)
def rmX8_addClock : Room := { frames := 2, cells := 0, slots := 0, locals := 42 }
set_option maxRecDepth 100000 in
set_option maxHeartbeats 4000000 in
theorem kX8_addClock (l : Launch) (dC : Nat → ClassId) (dI : Nat → Nat → Nat) (cI cJ cZ : ClassId) (q : Nat → Nat)  (pw : Int → Int) (co : Int → Int) (la : Int → Int) (vo : Int → Int) (nC : Int) (par : Int → Int) (div : Int → Int) (dee : Int → Int) (use : Int → Int) (mrun : Int → Int) (nT : Int) (due : Int → Int) (lat : Int → Int) (wk : Int → Int) (nE : Int) (tk : Int → Int) (ld : Int → Int) (rule : Int) (now : Int) (st : Int) (asl : Int) (idn : Int) (idl : Int → Int) (sp : Int) (pe : Int) (tin : Int → Int) (slp : Int) (late : Int) (srv : Int) (hv : Int → Int) (av : Int) (bd : Int) (sh : Int) (mL : Int → Int) (mB : Int → Int) (thr : Int) (x1 x2 x3 : Int) (hx1 : zR x1) (hx2 : zR x2) (hx3 : zR x3) (hst : 0 ≤ st ∧ st ≤ 3) (hpw : rgZ pw 4 1000) (hco : rgZ co 4 10000) (hla : rgZ la 4 100) (hidn : 0 ≤ idn ∧ idn ≤ 2000000) (hidl : rgZ idl 4 1000000) (hnC : 1 ≤ nC ∧ nC ≤ 8) : zMi l yX8_addClock wsX8_addClock rmX8_addClock (dC, dI) (zT cI cJ cZ) (wM cI cJ cZ q pw co la vo nC par div dee use mrun nT due lat wk nE tk ld rule now st asl idn idl sp pe tin slp late srv hv av bd sh mL mB thr) [.ref (q 0), .int (iI x1), .int (iI x2), .int (iI x3)] (fun (r9 : Int) (u9 : Int × Int × Int × Int × Int × (Int → Int) × Int × (Int → Int) × (Int → Int) × (Int → Int) × Int) => r9 = (u9.1) ∧ (((0 ≤ x1 ∧ x1 < nC) ∧ ((1 ≤ x2 ∧ x2 ≤ 64) ∧ (0 ≤ x3 ∧ x3 ≤ 3)) ∧ (nC < 8) ∧ (u9.2.1) = 0 ∧ (u9.1) = nC ∧ ((u9.2.2.1), (u9.2.2.2.1), (u9.2.2.2.2.1), (u9.2.2.2.2.2.1), (u9.2.2.2.2.2.2.1)) = scF pw la st asl now sp pe idl idn ∧ (u9.2.2.2.2.2.2.2.1) = uZ par nC x1 ∧ (u9.2.2.2.2.2.2.2.2.1) = uZ div nC x2 ∧ (u9.2.2.2.2.2.2.2.2.2.1) = uZ dee nC x3 ∧ (u9.2.2.2.2.2.2.2.2.2.2) = nC + 1) ∨ (¬ (0 ≤ x1 ∧ x1 < nC) ∧ (u9.2.1) = 1 ∧ (u9.2.2.1) = st ∧ (u9.2.2.2.1) = sp ∧ (u9.2.2.2.2.1) = pe ∧ (u9.2.2.2.2.2.1) = idl ∧ (u9.2.2.2.2.2.2.1) = idn ∧ (u9.2.2.2.2.2.2.2.1) = par ∧ (u9.2.2.2.2.2.2.2.2.1) = div ∧ (u9.2.2.2.2.2.2.2.2.2.1) = dee ∧ (u9.2.2.2.2.2.2.2.2.2.2) = nC) ∨ ((0 ≤ x1 ∧ x1 < nC) ∧ ¬ ((1 ≤ x2 ∧ x2 ≤ 64) ∧ (0 ≤ x3 ∧ x3 ≤ 3)) ∧ (u9.2.1) = 2 ∧ (u9.2.2.1) = st ∧ (u9.2.2.2.1) = sp ∧ (u9.2.2.2.2.1) = pe ∧ (u9.2.2.2.2.2.1) = idl ∧ (u9.2.2.2.2.2.2.1) = idn ∧ (u9.2.2.2.2.2.2.2.1) = par ∧ (u9.2.2.2.2.2.2.2.2.1) = div ∧ (u9.2.2.2.2.2.2.2.2.2.1) = dee ∧ (u9.2.2.2.2.2.2.2.2.2.2) = nC) ∨ ((0 ≤ x1 ∧ x1 < nC) ∧ ((1 ≤ x2 ∧ x2 ≤ 64) ∧ (0 ≤ x3 ∧ x3 ≤ 3)) ∧ ¬ (nC < 8) ∧ (u9.2.1) = 3 ∧ (u9.2.2.1) = st ∧ (u9.2.2.2.1) = sp ∧ (u9.2.2.2.2.1) = pe ∧ (u9.2.2.2.2.2.1) = idl ∧ (u9.2.2.2.2.2.2.1) = idn ∧ (u9.2.2.2.2.2.2.2.1) = par ∧ (u9.2.2.2.2.2.2.2.2.1) = div ∧ (u9.2.2.2.2.2.2.2.2.2.1) = dee ∧ (u9.2.2.2.2.2.2.2.2.2.2) = nC))) (fun u9 : Int × Int × Int × Int × Int × (Int → Int) × Int × (Int → Int) × (Int → Int) × (Int → Int) × Int => wM cI cJ cZ q pw co la vo (u9.2.2.2.2.2.2.2.2.2.2) (u9.2.2.2.2.2.2.2.1) (u9.2.2.2.2.2.2.2.2.1) (u9.2.2.2.2.2.2.2.2.2.1) use mrun nT due lat wk nE tk ld rule now (u9.2.2.1) asl (u9.2.2.2.2.2.2.1) (u9.2.2.2.2.2.1) (u9.2.2.2.1) (u9.2.2.2.2.1) tin slp late srv hv av bd sh mL mB (u9.2.1)) 0 0 := by
  refine zent_i (cc := cX8_addClock) (maxL := 4) (ret := (some .int)) (by decide +kernel) rfl (Nat.le_of_ble_eq_true rfl) ?_
  intro p e s m below meth c A ls hE hP hK hA hD hS hl
  obtain ⟨hx, hb, hr, hml, hown, hts, hlocks, hmn⟩ := hE
  have hinX8 : ∀ w ∈ u_ws RX8 TX8 36, w ∈ wsX8_addClock := by decide +kernel
  have hl : lv_has ls 4 [(0, .ref (q 0)), (1, .int (iI x1)), (2, .int (iI x2)), (3, .int (iI x3))] := hl
  refine z_gen (fun Q hQ => ?_)
  refine lv_aload_n hx hb dX8_addClock_0 rfl (lv_at hl 0 rfl) ?_
  refine lv_aload_n hx hb dX8_addClock_1 rfl (lv_at hl 0 rfl) ?_
  refine lv_iload_n hx hb dX8_addClock_2 rfl (lv_at hl 1 rfl) ?_
  refine zc_pi (va_runV (As := [.int (iI x1)]) (rest := [.ref (q 0)]) ⟨hx, hb, hml, hown, hts⟩ (kX8_isClock l dC dI cI cJ cZ q pw co la vo nC par div dee use mrun nT due lat wk nE tk ld rule now st asl idn idl sp pe tin slp late srv hv av bd sh mL mB thr x1 (by first | assumption | omega | exact b2i_01 _) (by first | assumption | omega | exact b2i_01 _)) (cwV 1 hts gX8_addClock_X8_isClock rfl rfl rfl (by decide +kernel) ⟨Nat.le_of_ble_eq_true rfl, Nat.le_of_ble_eq_true rfl⟩) (zqV hK hP [0, 1, 2, 3, 4, 5, 6, 7, 8, 9, 10, 11, 12, 13, 14, 15, 16, 17, 18, 19] rfl 0 rfl rfl) rfl rfl hl.1 rfl (lv_room (Nat.le_of_ble_eq_true rfl)) dX8_addClock_3 ⟨Nat.le_of_ble_eq_true rfl, Nat.le_of_ble_eq_true rfl⟩) ?_
  refine zc_i (va_runV (As := [.int (iI (b2i (0 ≤ x1 ∧ x1 < nC)))]) (rest := []) ⟨hx, hb, hml, hown, hts⟩ (kX8_asks l dC dI cI cJ cZ q pw co la vo nC par div dee use mrun nT due lat wk nE tk ld rule now st asl idn idl sp pe tin slp late srv hv av bd sh mL mB thr (b2i (0 ≤ x1 ∧ x1 < nC)) (by first | assumption | omega | exact b2i_01 _) s.heap.size) (cwV 1 hts gX8_addClock_X8_asks rfl rfl rfl (by decide +kernel) ⟨Nat.le_of_ble_eq_true rfl, Nat.le_of_ble_eq_true rfl⟩) (zpV hK hP hD [0, 1, 2, 3, 4, 5, 6, 7, 8, 9, 10, 11, 12, 13, 14, 15, 16, 17, 18, 19] rfl rfl 0 rfl rfl) rfl rfl hl.1 rfl (lv_room (Nat.le_of_ble_eq_true rfl)) dX8_addClock_6 ⟨Nat.le_of_ble_eq_true rfl, Nat.le_of_ble_eq_true rfl⟩) hP hD hS hA [0, 1, 2, 3, 4, 5, 6, 7, 8, 9, 10, 11, 12, 13, 14, 15, 16, 17, 18, 19] [] rfl rfl rfl (by decide) (fun v_3 u_2 H locs r_1 hP hD hS => ?_)
  refine ze_i r_1 ?_
  have hP : va_P (dC, dI) vwCl (wM cI cJ cZ q pw co la vo nC par div dee use mrun nT due lat wk nE tk ld rule now st asl idn idl sp pe tin slp late srv hv av bd sh mL mB (1 - (b2i (0 ≤ x1 ∧ x1 < nC)))) H := hP
  have hD : va_D A (wM cI cJ cZ q pw co la vo nC par div dee use mrun nT due lat wk nE tk ld rule now st asl idn idl sp pe tin slp late srv hv av bd sh mL mB (1 - (b2i (0 ≤ x1 ∧ x1 < nC)))) := hD
  refine zb_fne (tgt := 14) hx hb dX8_addClock_9 (by decide) (fun c_4 => ?_) (fun c_4 => ?_)
  · skip
    refine lv_iload_n hx hb dX8_addClock_14 rfl (lv_at hl 2 rfl) ?_
    refine lv_iconst (v := iI 1) hx hb dX8_addClock_15 rfl ?_
    refine lv_bipush (v := iI 64) hx hb dX8_addClock_16 (by decide) ?_
    refine zc_pi (va_runS (As := [.int (iI x2), .int (iI 1), .int (iI 64)]) (rest := []) ⟨hx, hb, hml, hown, hts⟩ (kX8_in l dC dI cI cJ cZ x2 1 64 (by first | assumption | omega | exact b2i_01 _) (by first | assumption | omega | exact b2i_01 _) (by first | assumption | omega | exact b2i_01 _)) (va_cwS 3 hts gX8_addClock_X8_in rfl rfl rfl (by decide +kernel) ⟨Nat.le_of_ble_eq_true rfl, Nat.le_of_ble_eq_true rfl⟩) (zqS hK hP [] rfl) rfl rfl hl.1 rfl (lv_room (Nat.le_of_ble_eq_true rfl)) dX8_addClock_18 ⟨Nat.le_of_ble_eq_true rfl, Nat.le_of_ble_eq_true rfl⟩) ?_
    refine zb_feq (tgt := 33) hx hb dX8_addClock_21 (by decide) (fun c_5 => ?_) (fun c_5 => ?_)
    · skip
      refine lv_aload_n hx hb dX8_addClock_33 rfl (lv_at hl 0 rfl) ?_
      refine lv_iconst (v := iI 2) hx hb dX8_addClock_34 rfl ?_
      refine zc_i (va_runV (As := [.int (iI 2)]) (rest := []) ⟨hx, hb, hml, hown, hts⟩ (kX8_fails l dC dI cI cJ cZ q pw co la vo nC par div dee use mrun nT due lat wk nE tk ld rule now st asl idn idl sp pe tin slp late srv hv av bd sh mL mB (1 - (b2i (0 ≤ x1 ∧ x1 < nC))) 2 H.size) (cwV 1 hts gX8_addClock_X8_fails rfl rfl rfl (by decide +kernel) ⟨Nat.le_of_ble_eq_true rfl, Nat.le_of_ble_eq_true rfl⟩) (zpV hK hP hD [0, 1, 2, 3, 4, 5, 6, 7, 8, 9, 10, 11, 12, 13, 14, 15, 16, 17, 18, 19] rfl rfl 0 rfl rfl) rfl rfl hl.1 rfl (lv_room (Nat.le_of_ble_eq_true rfl)) dX8_addClock_35 ⟨Nat.le_of_ble_eq_true rfl, Nat.le_of_ble_eq_true rfl⟩) hP hD hS hA [0, 1, 2, 3, 4, 5, 6, 7, 8, 9, 10, 11, 12, 13, 14, 15, 16, 17, 18, 19] [] rfl rfl rfl (by decide) (fun v_8 u_7 H locs r_6 hP hD hS => ?_)
      refine ze_i r_6 ?_
      have hP : va_P (dC, dI) vwCl (wM cI cJ cZ q pw co la vo nC par div dee use mrun nT due lat wk nE tk ld rule now st asl idn idl sp pe tin slp late srv hv av bd sh mL mB 2) H := hP
      have hD : va_D A (wM cI cJ cZ q pw co la vo nC par div dee use mrun nT due lat wk nE tk ld rule now st asl idn idl sp pe tin slp late srv hv av bd sh mL mB 2) := hD
      subst hQ
      exact zret_i (W1 := fun u9 : Int × Int × Int × Int × Int × (Int → Int) × Int × (Int → Int) × (Int → Int) × (Int → Int) × Int => wM cI cJ cZ q pw co la vo (u9.2.2.2.2.2.2.2.2.2.2) (u9.2.2.2.2.2.2.2.1) (u9.2.2.2.2.2.2.2.2.1) (u9.2.2.2.2.2.2.2.2.2.1) use mrun nT due lat wk nE tk ld rule now (u9.2.2.1) asl (u9.2.2.2.2.2.2.1) (u9.2.2.2.2.2.1) (u9.2.2.2.1) (u9.2.2.2.2.1) tin slp late srv hv av bd sh mL mB (u9.2.1)) (0, 2, st, sp, pe, idl, idn, par, div, dee, nC) hx hb hr hP hD hS hlocks dX8_addClock_38 (by first | (exact ⟨rfl, Or.inl (⟨by omega, by omega, by omega, by (first | rfl | (rw [b2i_t (by omega)]; done) | (rw [b2i_f (by omega)]; done) | (rw [b2i_t (by omega)]; rfl) | (rw [b2i_f (by omega)]; rfl)), by first | rfl | omega, by exact hsc9, by rfl, by rfl, by rfl, by rfl⟩)⟩) | (exact ⟨rfl, Or.inr (Or.inl (⟨by omega, by (first | rfl | (rw [b2i_t (by omega)]; done) | (rw [b2i_f (by omega)]; done) | (rw [b2i_t (by omega)]; rfl) | (rw [b2i_f (by omega)]; rfl)), rfl, rfl, rfl, rfl, rfl, rfl, rfl, rfl, rfl⟩))⟩) | (exact ⟨rfl, Or.inr (Or.inr (Or.inl (⟨by omega, by omega, by (first | rfl | (rw [b2i_t (by omega)]; done) | (rw [b2i_f (by omega)]; done) | (rw [b2i_t (by omega)]; rfl) | (rw [b2i_f (by omega)]; rfl)), rfl, rfl, rfl, rfl, rfl, rfl, rfl, rfl, rfl⟩)))⟩) | (exact ⟨rfl, Or.inr (Or.inr (Or.inr (⟨by omega, by omega, by omega, by (first | rfl | (rw [b2i_t (by omega)]; done) | (rw [b2i_f (by omega)]; done) | (rw [b2i_t (by omega)]; rfl) | (rw [b2i_f (by omega)]; rfl)), rfl, rfl, rfl, rfl, rfl, rfl, rfl, rfl, rfl⟩)))⟩))
    · skip
      refine lv_iload_n hx hb dX8_addClock_24 rfl (lv_at hl 3 rfl) ?_
      refine lv_iconst (v := iI 0) hx hb dX8_addClock_25 rfl ?_
      refine lv_iconst (v := iI 3) hx hb dX8_addClock_26 rfl ?_
      refine zc_pi (va_runS (As := [.int (iI x3), .int (iI 0), .int (iI 3)]) (rest := []) ⟨hx, hb, hml, hown, hts⟩ (kX8_in l dC dI cI cJ cZ x3 0 3 (by first | assumption | omega | exact b2i_01 _) (by first | assumption | omega | exact b2i_01 _) (by first | assumption | omega | exact b2i_01 _)) (va_cwS 3 hts gX8_addClock_X8_in rfl rfl rfl (by decide +kernel) ⟨Nat.le_of_ble_eq_true rfl, Nat.le_of_ble_eq_true rfl⟩) (zqS hK hP [] rfl) rfl rfl hl.1 rfl (lv_room (Nat.le_of_ble_eq_true rfl)) dX8_addClock_27 ⟨Nat.le_of_ble_eq_true rfl, Nat.le_of_ble_eq_true rfl⟩) ?_
      refine zb_fne (tgt := 39) hx hb dX8_addClock_30 (by decide) (fun c_9 => ?_) (fun c_9 => ?_)
      · skip
        refine lv_aload_n hx hb dX8_addClock_39 rfl (lv_at hl 0 rfl) ?_
        refine va_get (D := (dC, dI)) (ci := 8) (v := .int (iI nC)) (C := RX8) (T := TX8) (N := 36) hx hb hts hinX8 hown hK.1 hP 0 rfl rfl 4 (by decide) (hts _ (List.mem_of_getElem? (i := 1) rfl)) (fun _ h9 => h9) rfl dX8_addClock_40 ?_
        refine lv_bipush (v := iI 8) hx hb dX8_addClock_43 (by decide) ?_
        refine zi_cne (tgt := 54) hx hb (by omega) (by decide) dX8_addClock_45 (by decide) (fun c_10 => ?_) (fun c_10 => ?_)
        · skip
          refine lv_aload_n hx hb dX8_addClock_54 rfl (lv_at hl 0 rfl) ?_
          refine zc_v (va_runV (As := []) (rest := []) ⟨hx, hb, hml, hown, hts⟩ (kX8_stirs l dC dI cI cJ cZ q pw co la vo nC par div dee use mrun nT due lat wk nE tk ld rule now st asl idn idl sp pe tin slp late srv hv av bd sh mL mB (1 - (b2i (0 ≤ x1 ∧ x1 < nC))) (by first | assumption | omega | exact b2i_01 _) (by first | assumption | omega | exact b2i_01 _) (by first | assumption | omega | exact b2i_01 _) (by first | assumption | omega | exact b2i_01 _) (by first | assumption | omega | exact b2i_01 _) (by first | assumption | omega | exact b2i_01 _) H.size) (cwV 0 hts gX8_addClock_X8_stirs rfl rfl rfl (by decide +kernel) ⟨Nat.le_of_ble_eq_true rfl, Nat.le_of_ble_eq_true rfl⟩) (zpV hK hP hD [0, 1, 2, 3, 4, 5, 6, 7, 8, 9, 10, 11, 12, 13, 14, 15, 16, 17, 18, 19] rfl rfl 0 rfl rfl) rfl rfl hl.1 rfl (lv_room (Nat.le_of_ble_eq_true rfl)) dX8_addClock_55 ⟨Nat.le_of_ble_eq_true rfl, Nat.le_of_ble_eq_true rfl⟩) hP hD hS hA [0, 1, 2, 3, 4, 5, 6, 7, 8, 9, 10, 11, 12, 13, 14, 15, 16, 17, 18, 19] [] rfl rfl rfl (by decide) (fun u_12 H locs r_11 hP hD hS => ?_)
          obtain ⟨stx_14, spx_15, pex_16, idlx_17, idnx_18⟩ := u_12
          have r_11 : (stx_14, spx_15, pex_16, idlx_17, idnx_18) = scF pw la st asl now sp pe idl idn := r_11
          have hP : va_P (dC, dI) vwCl (wM cI cJ cZ q pw co la vo nC par div dee use mrun nT due lat wk nE tk ld rule now stx_14 asl idnx_18 idlx_17 spx_15 pex_16 tin slp late srv hv av bd sh mL mB (1 - (b2i (0 ≤ x1 ∧ x1 < nC)))) H := hP
          have hD : va_D A (wM cI cJ cZ q pw co la vo nC par div dee use mrun nT due lat wk nE tk ld rule now stx_14 asl idnx_18 idlx_17 spx_15 pex_16 tin slp late srv hv av bd sh mL mB (1 - (b2i (0 ≤ x1 ∧ x1 < nC)))) := hD
          have hsc9 := r_11
          refine lv_aload_n hx hb dX8_addClock_58 rfl (lv_at hl 0 rfl) ?_
          refine va_get (D := (dC, dI)) (ci := 8) (v := .ref (q 5)) (C := RX8) (T := TX8) (N := 36) hx hb hts hinX8 hown hK.1 hP 0 rfl rfl 5 (by decide) (hts _ (List.mem_of_getElem? (i := 2) rfl)) (fun _ h9 => h9) rfl dX8_addClock_59 ?_
          refine lv_aload_n hx hb dX8_addClock_62 rfl (lv_at hl 0 rfl) ?_
          refine va_get (D := (dC, dI)) (ci := 8) (v := .int (iI nC)) (C := RX8) (T := TX8) (N := 36) hx hb hts hinX8 hown hK.1 hP 0 rfl rfl 4 (by decide) (hts _ (List.mem_of_getElem? (i := 1) rfl)) (fun _ h9 => h9) rfl dX8_addClock_63 ?_
          refine lv_iload_n hx hb dX8_addClock_66 rfl (lv_at hl 1 rfl) ?_
          refine za_st hx hb hK hP hD hS 5 0 rfl rfl (by omega) (by omega) dX8_addClock_67 (fun H locs hP hD hS => ?_)
          have hP : va_P (dC, dI) vwCl (wM cI cJ cZ q pw co la vo nC (uZ par nC x1) div dee use mrun nT due lat wk nE tk ld rule now stx_14 asl idnx_18 idlx_17 spx_15 pex_16 tin slp late srv hv av bd sh mL mB (1 - (b2i (0 ≤ x1 ∧ x1 < nC)))) H := hP
          have hD : va_D A (wM cI cJ cZ q pw co la vo nC (uZ par nC x1) div dee use mrun nT due lat wk nE tk ld rule now stx_14 asl idnx_18 idlx_17 spx_15 pex_16 tin slp late srv hv av bd sh mL mB (1 - (b2i (0 ≤ x1 ∧ x1 < nC)))) := hD
          refine lv_aload_n hx hb dX8_addClock_68 rfl (lv_at hl 0 rfl) ?_
          refine va_get (D := (dC, dI)) (ci := 8) (v := .ref (q 6)) (C := RX8) (T := TX8) (N := 36) hx hb hts hinX8 hown hK.1 hP 0 rfl rfl 6 (by decide) (hts _ (List.mem_of_getElem? (i := 3) rfl)) (fun _ h9 => h9) rfl dX8_addClock_69 ?_
          refine lv_aload_n hx hb dX8_addClock_72 rfl (lv_at hl 0 rfl) ?_
          refine va_get (D := (dC, dI)) (ci := 8) (v := .int (iI nC)) (C := RX8) (T := TX8) (N := 36) hx hb hts hinX8 hown hK.1 hP 0 rfl rfl 4 (by decide) (hts _ (List.mem_of_getElem? (i := 1) rfl)) (fun _ h9 => h9) rfl dX8_addClock_73 ?_
          refine lv_iload_n hx hb dX8_addClock_76 rfl (lv_at hl 2 rfl) ?_
          refine za_st hx hb hK hP hD hS 6 0 rfl rfl (by omega) (by omega) dX8_addClock_77 (fun H locs hP hD hS => ?_)
          have hP : va_P (dC, dI) vwCl (wM cI cJ cZ q pw co la vo nC (uZ par nC x1) (uZ div nC x2) dee use mrun nT due lat wk nE tk ld rule now stx_14 asl idnx_18 idlx_17 spx_15 pex_16 tin slp late srv hv av bd sh mL mB (1 - (b2i (0 ≤ x1 ∧ x1 < nC)))) H := hP
          have hD : va_D A (wM cI cJ cZ q pw co la vo nC (uZ par nC x1) (uZ div nC x2) dee use mrun nT due lat wk nE tk ld rule now stx_14 asl idnx_18 idlx_17 spx_15 pex_16 tin slp late srv hv av bd sh mL mB (1 - (b2i (0 ≤ x1 ∧ x1 < nC)))) := hD
          refine lv_aload_n hx hb dX8_addClock_78 rfl (lv_at hl 0 rfl) ?_
          refine va_get (D := (dC, dI)) (ci := 8) (v := .ref (q 7)) (C := RX8) (T := TX8) (N := 36) hx hb hts hinX8 hown hK.1 hP 0 rfl rfl 7 (by decide) (hts _ (List.mem_of_getElem? (i := 4) rfl)) (fun _ h9 => h9) rfl dX8_addClock_79 ?_
          refine lv_aload_n hx hb dX8_addClock_82 rfl (lv_at hl 0 rfl) ?_
          refine va_get (D := (dC, dI)) (ci := 8) (v := .int (iI nC)) (C := RX8) (T := TX8) (N := 36) hx hb hts hinX8 hown hK.1 hP 0 rfl rfl 4 (by decide) (hts _ (List.mem_of_getElem? (i := 1) rfl)) (fun _ h9 => h9) rfl dX8_addClock_83 ?_
          refine lv_iload_n hx hb dX8_addClock_86 rfl (lv_at hl 3 rfl) ?_
          refine za_st hx hb hK hP hD hS 7 0 rfl rfl (by omega) (by omega) dX8_addClock_87 (fun H locs hP hD hS => ?_)
          have hP : va_P (dC, dI) vwCl (wM cI cJ cZ q pw co la vo nC (uZ par nC x1) (uZ div nC x2) (uZ dee nC x3) use mrun nT due lat wk nE tk ld rule now stx_14 asl idnx_18 idlx_17 spx_15 pex_16 tin slp late srv hv av bd sh mL mB (1 - (b2i (0 ≤ x1 ∧ x1 < nC)))) H := hP
          have hD : va_D A (wM cI cJ cZ q pw co la vo nC (uZ par nC x1) (uZ div nC x2) (uZ dee nC x3) use mrun nT due lat wk nE tk ld rule now stx_14 asl idnx_18 idlx_17 spx_15 pex_16 tin slp late srv hv av bd sh mL mB (1 - (b2i (0 ≤ x1 ∧ x1 < nC)))) := hD
          refine lv_aload_n hx hb dX8_addClock_88 rfl (lv_at hl 0 rfl) ?_
          refine lv_dup hx hb dX8_addClock_89 rfl ?_
          refine va_get (D := (dC, dI)) (ci := 8) (v := .int (iI nC)) (C := RX8) (T := TX8) (N := 36) hx hb hts hinX8 hown hK.1 hP 0 rfl rfl 4 (by decide) (hts _ (List.mem_of_getElem? (i := 1) rfl)) (fun _ h9 => h9) rfl dX8_addClock_90 ?_
          refine lv_iconst (v := iI 1) hx hb dX8_addClock_93 rfl ?_
          refine zi_add hx hb dX8_addClock_94 ?_
          refine va_put (D := (dC, dI)) (ci := 8) (v := .int (iI (nC + 1))) (ty := .int) (C := RX8) (T := TX8) (N := 36) hx hb hts hinX8 tyX8 tyX8_ok nmX8 hown hK.1 hP hD hS 0 rfl rfl 4 (by decide) (hts _ (List.mem_of_getElem? (i := 1) rfl)) (fun _ h9 => h9) rfl (by decide +kernel) rfl rfl (Nat.le_of_ble_eq_true rfl) dX8_addClock_95 (fun H locs hP hD hS => ?_)
          have hP : va_P (dC, dI) vwCl (wM cI cJ cZ q pw co la vo (nC + 1) (uZ par nC x1) (uZ div nC x2) (uZ dee nC x3) use mrun nT due lat wk nE tk ld rule now stx_14 asl idnx_18 idlx_17 spx_15 pex_16 tin slp late srv hv av bd sh mL mB (1 - (b2i (0 ≤ x1 ∧ x1 < nC)))) H := hP
          have hD : va_D A (wM cI cJ cZ q pw co la vo (nC + 1) (uZ par nC x1) (uZ div nC x2) (uZ dee nC x3) use mrun nT due lat wk nE tk ld rule now stx_14 asl idnx_18 idlx_17 spx_15 pex_16 tin slp late srv hv av bd sh mL mB (1 - (b2i (0 ≤ x1 ∧ x1 < nC)))) := hD
          refine lv_aload_n hx hb dX8_addClock_98 rfl (lv_at hl 0 rfl) ?_
          refine va_get (D := (dC, dI)) (ci := 8) (v := .int (iI (nC + 1))) (C := RX8) (T := TX8) (N := 36) hx hb hts hinX8 hown hK.1 hP 0 rfl rfl 4 (by decide) (hts _ (List.mem_of_getElem? (i := 1) rfl)) (fun _ h9 => h9) rfl dX8_addClock_99 ?_
          refine lv_iconst (v := iI 1) hx hb dX8_addClock_102 rfl ?_
          refine zi_sub hx hb dX8_addClock_103 ?_
          subst hQ
          exact zret_i (W1 := fun u9 : Int × Int × Int × Int × Int × (Int → Int) × Int × (Int → Int) × (Int → Int) × (Int → Int) × Int => wM cI cJ cZ q pw co la vo (u9.2.2.2.2.2.2.2.2.2.2) (u9.2.2.2.2.2.2.2.1) (u9.2.2.2.2.2.2.2.2.1) (u9.2.2.2.2.2.2.2.2.2.1) use mrun nT due lat wk nE tk ld rule now (u9.2.2.1) asl (u9.2.2.2.2.2.2.1) (u9.2.2.2.2.2.1) (u9.2.2.2.1) (u9.2.2.2.2.1) tin slp late srv hv av bd sh mL mB (u9.2.1)) ((nC + 1) - 1, 1 - (b2i (0 ≤ x1 ∧ x1 < nC)), stx_14, spx_15, pex_16, idlx_17, idnx_18, uZ par nC x1, uZ div nC x2, uZ dee nC x3, nC + 1) hx hb hr hP hD hS hlocks dX8_addClock_104 (by first | (exact ⟨rfl, Or.inl (⟨by omega, by omega, by omega, by (first | rfl | (rw [b2i_t (by omega)]; done) | (rw [b2i_f (by omega)]; done) | (rw [b2i_t (by omega)]; rfl) | (rw [b2i_f (by omega)]; rfl)), by first | rfl | omega, by exact hsc9, by rfl, by rfl, by rfl, by rfl⟩)⟩) | (exact ⟨rfl, Or.inr (Or.inl (⟨by omega, by (first | rfl | (rw [b2i_t (by omega)]; done) | (rw [b2i_f (by omega)]; done) | (rw [b2i_t (by omega)]; rfl) | (rw [b2i_f (by omega)]; rfl)), rfl, rfl, rfl, rfl, rfl, rfl, rfl, rfl, rfl⟩))⟩) | (exact ⟨rfl, Or.inr (Or.inr (Or.inl (⟨by omega, by omega, by (first | rfl | (rw [b2i_t (by omega)]; done) | (rw [b2i_f (by omega)]; done) | (rw [b2i_t (by omega)]; rfl) | (rw [b2i_f (by omega)]; rfl)), rfl, rfl, rfl, rfl, rfl, rfl, rfl, rfl, rfl⟩)))⟩) | (exact ⟨rfl, Or.inr (Or.inr (Or.inr (⟨by omega, by omega, by omega, by (first | rfl | (rw [b2i_t (by omega)]; done) | (rw [b2i_f (by omega)]; done) | (rw [b2i_t (by omega)]; rfl) | (rw [b2i_f (by omega)]; rfl)), rfl, rfl, rfl, rfl, rfl, rfl, rfl, rfl, rfl⟩)))⟩))
        · skip
          refine lv_aload_n hx hb dX8_addClock_48 rfl (lv_at hl 0 rfl) ?_
          refine lv_iconst (v := iI 3) hx hb dX8_addClock_49 rfl ?_
          refine zc_i (va_runV (As := [.int (iI 3)]) (rest := []) ⟨hx, hb, hml, hown, hts⟩ (kX8_fails l dC dI cI cJ cZ q pw co la vo nC par div dee use mrun nT due lat wk nE tk ld rule now st asl idn idl sp pe tin slp late srv hv av bd sh mL mB (1 - (b2i (0 ≤ x1 ∧ x1 < nC))) 3 H.size) (cwV 1 hts gX8_addClock_X8_fails rfl rfl rfl (by decide +kernel) ⟨Nat.le_of_ble_eq_true rfl, Nat.le_of_ble_eq_true rfl⟩) (zpV hK hP hD [0, 1, 2, 3, 4, 5, 6, 7, 8, 9, 10, 11, 12, 13, 14, 15, 16, 17, 18, 19] rfl rfl 0 rfl rfl) rfl rfl hl.1 rfl (lv_room (Nat.le_of_ble_eq_true rfl)) dX8_addClock_50 ⟨Nat.le_of_ble_eq_true rfl, Nat.le_of_ble_eq_true rfl⟩) hP hD hS hA [0, 1, 2, 3, 4, 5, 6, 7, 8, 9, 10, 11, 12, 13, 14, 15, 16, 17, 18, 19] [] rfl rfl rfl (by decide) (fun v_21 u_20 H locs r_19 hP hD hS => ?_)
          refine ze_i r_19 ?_
          have hP : va_P (dC, dI) vwCl (wM cI cJ cZ q pw co la vo nC par div dee use mrun nT due lat wk nE tk ld rule now st asl idn idl sp pe tin slp late srv hv av bd sh mL mB 3) H := hP
          have hD : va_D A (wM cI cJ cZ q pw co la vo nC par div dee use mrun nT due lat wk nE tk ld rule now st asl idn idl sp pe tin slp late srv hv av bd sh mL mB 3) := hD
          subst hQ
          exact zret_i (W1 := fun u9 : Int × Int × Int × Int × Int × (Int → Int) × Int × (Int → Int) × (Int → Int) × (Int → Int) × Int => wM cI cJ cZ q pw co la vo (u9.2.2.2.2.2.2.2.2.2.2) (u9.2.2.2.2.2.2.2.1) (u9.2.2.2.2.2.2.2.2.1) (u9.2.2.2.2.2.2.2.2.2.1) use mrun nT due lat wk nE tk ld rule now (u9.2.2.1) asl (u9.2.2.2.2.2.2.1) (u9.2.2.2.2.2.1) (u9.2.2.2.1) (u9.2.2.2.2.1) tin slp late srv hv av bd sh mL mB (u9.2.1)) (0, 3, st, sp, pe, idl, idn, par, div, dee, nC) hx hb hr hP hD hS hlocks dX8_addClock_53 (by first | (exact ⟨rfl, Or.inl (⟨by omega, by omega, by omega, by (first | rfl | (rw [b2i_t (by omega)]; done) | (rw [b2i_f (by omega)]; done) | (rw [b2i_t (by omega)]; rfl) | (rw [b2i_f (by omega)]; rfl)), by first | rfl | omega, by exact hsc9, by rfl, by rfl, by rfl, by rfl⟩)⟩) | (exact ⟨rfl, Or.inr (Or.inl (⟨by omega, by (first | rfl | (rw [b2i_t (by omega)]; done) | (rw [b2i_f (by omega)]; done) | (rw [b2i_t (by omega)]; rfl) | (rw [b2i_f (by omega)]; rfl)), rfl, rfl, rfl, rfl, rfl, rfl, rfl, rfl, rfl⟩))⟩) | (exact ⟨rfl, Or.inr (Or.inr (Or.inl (⟨by omega, by omega, by (first | rfl | (rw [b2i_t (by omega)]; done) | (rw [b2i_f (by omega)]; done) | (rw [b2i_t (by omega)]; rfl) | (rw [b2i_f (by omega)]; rfl)), rfl, rfl, rfl, rfl, rfl, rfl, rfl, rfl, rfl⟩)))⟩) | (exact ⟨rfl, Or.inr (Or.inr (Or.inr (⟨by omega, by omega, by omega, by (first | rfl | (rw [b2i_t (by omega)]; done) | (rw [b2i_f (by omega)]; done) | (rw [b2i_t (by omega)]; rfl) | (rw [b2i_f (by omega)]; rfl)), rfl, rfl, rfl, rfl, rfl, rfl, rfl, rfl, rfl⟩)))⟩))
      · skip
        refine lv_aload_n hx hb dX8_addClock_33 rfl (lv_at hl 0 rfl) ?_
        refine lv_iconst (v := iI 2) hx hb dX8_addClock_34 rfl ?_
        refine zc_i (va_runV (As := [.int (iI 2)]) (rest := []) ⟨hx, hb, hml, hown, hts⟩ (kX8_fails l dC dI cI cJ cZ q pw co la vo nC par div dee use mrun nT due lat wk nE tk ld rule now st asl idn idl sp pe tin slp late srv hv av bd sh mL mB (1 - (b2i (0 ≤ x1 ∧ x1 < nC))) 2 H.size) (cwV 1 hts gX8_addClock_X8_fails rfl rfl rfl (by decide +kernel) ⟨Nat.le_of_ble_eq_true rfl, Nat.le_of_ble_eq_true rfl⟩) (zpV hK hP hD [0, 1, 2, 3, 4, 5, 6, 7, 8, 9, 10, 11, 12, 13, 14, 15, 16, 17, 18, 19] rfl rfl 0 rfl rfl) rfl rfl hl.1 rfl (lv_room (Nat.le_of_ble_eq_true rfl)) dX8_addClock_35 ⟨Nat.le_of_ble_eq_true rfl, Nat.le_of_ble_eq_true rfl⟩) hP hD hS hA [0, 1, 2, 3, 4, 5, 6, 7, 8, 9, 10, 11, 12, 13, 14, 15, 16, 17, 18, 19] [] rfl rfl rfl (by decide) (fun v_24 u_23 H locs r_22 hP hD hS => ?_)
        refine ze_i r_22 ?_
        have hP : va_P (dC, dI) vwCl (wM cI cJ cZ q pw co la vo nC par div dee use mrun nT due lat wk nE tk ld rule now st asl idn idl sp pe tin slp late srv hv av bd sh mL mB 2) H := hP
        have hD : va_D A (wM cI cJ cZ q pw co la vo nC par div dee use mrun nT due lat wk nE tk ld rule now st asl idn idl sp pe tin slp late srv hv av bd sh mL mB 2) := hD
        subst hQ
        exact zret_i (W1 := fun u9 : Int × Int × Int × Int × Int × (Int → Int) × Int × (Int → Int) × (Int → Int) × (Int → Int) × Int => wM cI cJ cZ q pw co la vo (u9.2.2.2.2.2.2.2.2.2.2) (u9.2.2.2.2.2.2.2.1) (u9.2.2.2.2.2.2.2.2.1) (u9.2.2.2.2.2.2.2.2.2.1) use mrun nT due lat wk nE tk ld rule now (u9.2.2.1) asl (u9.2.2.2.2.2.2.1) (u9.2.2.2.2.2.1) (u9.2.2.2.1) (u9.2.2.2.2.1) tin slp late srv hv av bd sh mL mB (u9.2.1)) (0, 2, st, sp, pe, idl, idn, par, div, dee, nC) hx hb hr hP hD hS hlocks dX8_addClock_38 (by first | (exact ⟨rfl, Or.inl (⟨by omega, by omega, by omega, by (first | rfl | (rw [b2i_t (by omega)]; done) | (rw [b2i_f (by omega)]; done) | (rw [b2i_t (by omega)]; rfl) | (rw [b2i_f (by omega)]; rfl)), by first | rfl | omega, by exact hsc9, by rfl, by rfl, by rfl, by rfl⟩)⟩) | (exact ⟨rfl, Or.inr (Or.inl (⟨by omega, by (first | rfl | (rw [b2i_t (by omega)]; done) | (rw [b2i_f (by omega)]; done) | (rw [b2i_t (by omega)]; rfl) | (rw [b2i_f (by omega)]; rfl)), rfl, rfl, rfl, rfl, rfl, rfl, rfl, rfl, rfl⟩))⟩) | (exact ⟨rfl, Or.inr (Or.inr (Or.inl (⟨by omega, by omega, by (first | rfl | (rw [b2i_t (by omega)]; done) | (rw [b2i_f (by omega)]; done) | (rw [b2i_t (by omega)]; rfl) | (rw [b2i_f (by omega)]; rfl)), rfl, rfl, rfl, rfl, rfl, rfl, rfl, rfl, rfl⟩)))⟩) | (exact ⟨rfl, Or.inr (Or.inr (Or.inr (⟨by omega, by omega, by omega, by (first | rfl | (rw [b2i_t (by omega)]; done) | (rw [b2i_f (by omega)]; done) | (rw [b2i_t (by omega)]; rfl) | (rw [b2i_f (by omega)]; rfl)), rfl, rfl, rfl, rfl, rfl, rfl, rfl, rfl, rfl⟩)))⟩))
  · skip
    refine lv_iconst (v := iI 0) hx hb dX8_addClock_12 rfl ?_
    subst hQ
    exact zret_i (W1 := fun u9 : Int × Int × Int × Int × Int × (Int → Int) × Int × (Int → Int) × (Int → Int) × (Int → Int) × Int => wM cI cJ cZ q pw co la vo (u9.2.2.2.2.2.2.2.2.2.2) (u9.2.2.2.2.2.2.2.1) (u9.2.2.2.2.2.2.2.2.1) (u9.2.2.2.2.2.2.2.2.2.1) use mrun nT due lat wk nE tk ld rule now (u9.2.2.1) asl (u9.2.2.2.2.2.2.1) (u9.2.2.2.2.2.1) (u9.2.2.2.1) (u9.2.2.2.2.1) tin slp late srv hv av bd sh mL mB (u9.2.1)) (0, 1 - (b2i (0 ≤ x1 ∧ x1 < nC)), st, sp, pe, idl, idn, par, div, dee, nC) hx hb hr hP hD hS hlocks dX8_addClock_13 (by first | (exact ⟨rfl, Or.inl (⟨by omega, by omega, by omega, by (first | rfl | (rw [b2i_t (by omega)]; done) | (rw [b2i_f (by omega)]; done) | (rw [b2i_t (by omega)]; rfl) | (rw [b2i_f (by omega)]; rfl)), by first | rfl | omega, by exact hsc9, by rfl, by rfl, by rfl, by rfl⟩)⟩) | (exact ⟨rfl, Or.inr (Or.inl (⟨by omega, by (first | rfl | (rw [b2i_t (by omega)]; done) | (rw [b2i_f (by omega)]; done) | (rw [b2i_t (by omega)]; rfl) | (rw [b2i_f (by omega)]; rfl)), rfl, rfl, rfl, rfl, rfl, rfl, rfl, rfl, rfl⟩))⟩) | (exact ⟨rfl, Or.inr (Or.inr (Or.inl (⟨by omega, by omega, by (first | rfl | (rw [b2i_t (by omega)]; done) | (rw [b2i_f (by omega)]; done) | (rw [b2i_t (by omega)]; rfl) | (rw [b2i_f (by omega)]; rfl)), rfl, rfl, rfl, rfl, rfl, rfl, rfl, rfl, rfl⟩)))⟩) | (exact ⟨rfl, Or.inr (Or.inr (Or.inr (⟨by omega, by omega, by omega, by (first | rfl | (rw [b2i_t (by omega)]; done) | (rw [b2i_f (by omega)]; done) | (rw [b2i_t (by omega)]; rfl) | (rw [b2i_f (by omega)]; rfl)), rfl, rfl, rfl, rfl, rfl, rfl, rfl, rfl, rfl⟩)))⟩))
def rmX8_use : Room := { frames := 2, cells := 0, slots := 0, locals := 42 }
set_option maxRecDepth 100000 in
set_option maxHeartbeats 4000000 in
theorem kX8_use (l : Launch) (dC : Nat → ClassId) (dI : Nat → Nat → Nat) (cI cJ cZ : ClassId) (q : Nat → Nat)  (pw : Int → Int) (co : Int → Int) (la : Int → Int) (vo : Int → Int) (nC : Int) (par : Int → Int) (div : Int → Int) (dee : Int → Int) (use : Int → Int) (mrun : Int → Int) (nT : Int) (due : Int → Int) (lat : Int → Int) (wk : Int → Int) (nE : Int) (tk : Int → Int) (ld : Int → Int) (rule : Int) (now : Int) (st : Int) (asl : Int) (idn : Int) (idl : Int → Int) (sp : Int) (pe : Int) (tin : Int → Int) (slp : Int) (late : Int) (srv : Int) (hv : Int → Int) (av : Int) (bd : Int) (sh : Int) (mL : Int → Int) (mB : Int → Int) (thr : Int) (x1 : Int) (hx1 : zR x1) (hst : 0 ≤ st ∧ st ≤ 3) (hpw : rgZ pw 4 1000) (hco : rgZ co 4 10000) (hla : rgZ la 4 100) (hidn : 0 ≤ idn ∧ idn ≤ 2000000) (hidl : rgZ idl 4 1000000) (hnC : 1 ≤ nC ∧ nC ≤ 8) (huse : rgZ use 8 9) : zMi l yX8_use wsX8_use rmX8_use (dC, dI) (zT cI cJ cZ) (wM cI cJ cZ q pw co la vo nC par div dee use mrun nT due lat wk nE tk ld rule now st asl idn idl sp pe tin slp late srv hv av bd sh mL mB thr) [.ref (q 0), .int (iI x1)] (fun (r9 : Int) (u9 : Int × Int × Int × Int × Int × (Int → Int) × Int × (Int → Int)) => r9 = (u9.1) ∧ (((0 ≤ x1 ∧ x1 < nC) ∧ (use x1 < 9) ∧ (u9.2.1) = 0 ∧ (u9.1) = use x1 + 1 ∧ ((u9.2.2.1), (u9.2.2.2.1), (u9.2.2.2.2.1), (u9.2.2.2.2.2.1), (u9.2.2.2.2.2.2.1)) = scF pw la st asl now sp pe idl idn ∧ (u9.2.2.2.2.2.2.2) = uZ use x1 (use x1 + 1)) ∨ (¬ (0 ≤ x1 ∧ x1 < nC) ∧ (u9.2.1) = 1 ∧ (u9.2.2.1) = st ∧ (u9.2.2.2.1) = sp ∧ (u9.2.2.2.2.1) = pe ∧ (u9.2.2.2.2.2.1) = idl ∧ (u9.2.2.2.2.2.2.1) = idn ∧ (u9.2.2.2.2.2.2.2) = use) ∨ ((0 ≤ x1 ∧ x1 < nC) ∧ ¬ (use x1 < 9) ∧ (u9.2.1) = 2 ∧ (u9.2.2.1) = st ∧ (u9.2.2.2.1) = sp ∧ (u9.2.2.2.2.1) = pe ∧ (u9.2.2.2.2.2.1) = idl ∧ (u9.2.2.2.2.2.2.1) = idn ∧ (u9.2.2.2.2.2.2.2) = use))) (fun u9 : Int × Int × Int × Int × Int × (Int → Int) × Int × (Int → Int) => wM cI cJ cZ q pw co la vo nC par div dee (u9.2.2.2.2.2.2.2) mrun nT due lat wk nE tk ld rule now (u9.2.2.1) asl (u9.2.2.2.2.2.2.1) (u9.2.2.2.2.2.1) (u9.2.2.2.1) (u9.2.2.2.2.1) tin slp late srv hv av bd sh mL mB (u9.2.1)) 0 0 := by
  refine zent_i (cc := cX8_use) (maxL := 2) (ret := (some .int)) (by decide +kernel) rfl (Nat.le_of_ble_eq_true rfl) ?_
  intro p e s m below meth c A ls hE hP hK hA hD hS hl
  obtain ⟨hx, hb, hr, hml, hown, hts, hlocks, hmn⟩ := hE
  have hinX8 : ∀ w ∈ u_ws RX8 TX8 36, w ∈ wsX8_use := by decide +kernel
  have hl : lv_has ls 2 [(0, .ref (q 0)), (1, .int (iI x1))] := hl
  refine z_gen (fun Q hQ => ?_)
  refine lv_aload_n hx hb dX8_use_0 rfl (lv_at hl 0 rfl) ?_
  refine lv_aload_n hx hb dX8_use_1 rfl (lv_at hl 0 rfl) ?_
  refine lv_iload_n hx hb dX8_use_2 rfl (lv_at hl 1 rfl) ?_
  refine zc_pi (va_runV (As := [.int (iI x1)]) (rest := [.ref (q 0)]) ⟨hx, hb, hml, hown, hts⟩ (kX8_isClock l dC dI cI cJ cZ q pw co la vo nC par div dee use mrun nT due lat wk nE tk ld rule now st asl idn idl sp pe tin slp late srv hv av bd sh mL mB thr x1 (by first | assumption | omega | exact b2i_01 _) (by first | assumption | omega | exact b2i_01 _)) (cwV 1 hts gX8_use_X8_isClock rfl rfl rfl (by decide +kernel) ⟨Nat.le_of_ble_eq_true rfl, Nat.le_of_ble_eq_true rfl⟩) (zqV hK hP [0, 1, 2, 3, 4, 5, 6, 7, 8, 9, 10, 11, 12, 13, 14, 15, 16, 17, 18, 19] rfl 0 rfl rfl) rfl rfl hl.1 rfl (lv_room (Nat.le_of_ble_eq_true rfl)) dX8_use_3 ⟨Nat.le_of_ble_eq_true rfl, Nat.le_of_ble_eq_true rfl⟩) ?_
  refine zc_i (va_runV (As := [.int (iI (b2i (0 ≤ x1 ∧ x1 < nC)))]) (rest := []) ⟨hx, hb, hml, hown, hts⟩ (kX8_asks l dC dI cI cJ cZ q pw co la vo nC par div dee use mrun nT due lat wk nE tk ld rule now st asl idn idl sp pe tin slp late srv hv av bd sh mL mB thr (b2i (0 ≤ x1 ∧ x1 < nC)) (by first | assumption | omega | exact b2i_01 _) s.heap.size) (cwV 1 hts gX8_use_X8_asks rfl rfl rfl (by decide +kernel) ⟨Nat.le_of_ble_eq_true rfl, Nat.le_of_ble_eq_true rfl⟩) (zpV hK hP hD [0, 1, 2, 3, 4, 5, 6, 7, 8, 9, 10, 11, 12, 13, 14, 15, 16, 17, 18, 19] rfl rfl 0 rfl rfl) rfl rfl hl.1 rfl (lv_room (Nat.le_of_ble_eq_true rfl)) dX8_use_6 ⟨Nat.le_of_ble_eq_true rfl, Nat.le_of_ble_eq_true rfl⟩) hP hD hS hA [0, 1, 2, 3, 4, 5, 6, 7, 8, 9, 10, 11, 12, 13, 14, 15, 16, 17, 18, 19] [] rfl rfl rfl (by decide) (fun v_3 u_2 H locs r_1 hP hD hS => ?_)
  refine ze_i r_1 ?_
  have hP : va_P (dC, dI) vwCl (wM cI cJ cZ q pw co la vo nC par div dee use mrun nT due lat wk nE tk ld rule now st asl idn idl sp pe tin slp late srv hv av bd sh mL mB (1 - (b2i (0 ≤ x1 ∧ x1 < nC)))) H := hP
  have hD : va_D A (wM cI cJ cZ q pw co la vo nC par div dee use mrun nT due lat wk nE tk ld rule now st asl idn idl sp pe tin slp late srv hv av bd sh mL mB (1 - (b2i (0 ≤ x1 ∧ x1 < nC)))) := hD
  refine zb_fne (tgt := 14) hx hb dX8_use_9 (by decide) (fun c_4 => ?_) (fun c_4 => ?_)
  · skip
    refine lv_aload_n hx hb dX8_use_14 rfl (lv_at hl 0 rfl) ?_
    refine va_get (D := (dC, dI)) (ci := 8) (v := .ref (q 8)) (C := RX8) (T := TX8) (N := 36) hx hb hts hinX8 hown hK.1 hP 0 rfl rfl 8 (by decide) (hts _ (List.mem_of_getElem? (i := 1) rfl)) (fun _ h9 => h9) rfl dX8_use_15 ?_
    refine lv_iload_n hx hb dX8_use_18 rfl (lv_at hl 1 rfl) ?_
    refine za_ld hx hb hK hP 8 0 rfl rfl (by omega) (by omega) dX8_use_19 ?_
    have e_5 := huse x1 (by omega) (by omega)
    refine lv_bipush (v := iI 9) hx hb dX8_use_20 (by decide) ?_
    refine zi_cne (tgt := 31) hx hb (by omega) (by decide) dX8_use_22 (by decide) (fun c_6 => ?_) (fun c_6 => ?_)
    · skip
      refine lv_aload_n hx hb dX8_use_31 rfl (lv_at hl 0 rfl) ?_
      refine zc_v (va_runV (As := []) (rest := []) ⟨hx, hb, hml, hown, hts⟩ (kX8_stirs l dC dI cI cJ cZ q pw co la vo nC par div dee use mrun nT due lat wk nE tk ld rule now st asl idn idl sp pe tin slp late srv hv av bd sh mL mB (1 - (b2i (0 ≤ x1 ∧ x1 < nC))) (by first | assumption | omega | exact b2i_01 _) (by first | assumption | omega | exact b2i_01 _) (by first | assumption | omega | exact b2i_01 _) (by first | assumption | omega | exact b2i_01 _) (by first | assumption | omega | exact b2i_01 _) (by first | assumption | omega | exact b2i_01 _) H.size) (cwV 0 hts gX8_use_X8_stirs rfl rfl rfl (by decide +kernel) ⟨Nat.le_of_ble_eq_true rfl, Nat.le_of_ble_eq_true rfl⟩) (zpV hK hP hD [0, 1, 2, 3, 4, 5, 6, 7, 8, 9, 10, 11, 12, 13, 14, 15, 16, 17, 18, 19] rfl rfl 0 rfl rfl) rfl rfl hl.1 rfl (lv_room (Nat.le_of_ble_eq_true rfl)) dX8_use_32 ⟨Nat.le_of_ble_eq_true rfl, Nat.le_of_ble_eq_true rfl⟩) hP hD hS hA [0, 1, 2, 3, 4, 5, 6, 7, 8, 9, 10, 11, 12, 13, 14, 15, 16, 17, 18, 19] [] rfl rfl rfl (by decide) (fun u_8 H locs r_7 hP hD hS => ?_)
      obtain ⟨stx_10, spx_11, pex_12, idlx_13, idnx_14⟩ := u_8
      have r_7 : (stx_10, spx_11, pex_12, idlx_13, idnx_14) = scF pw la st asl now sp pe idl idn := r_7
      have hP : va_P (dC, dI) vwCl (wM cI cJ cZ q pw co la vo nC par div dee use mrun nT due lat wk nE tk ld rule now stx_10 asl idnx_14 idlx_13 spx_11 pex_12 tin slp late srv hv av bd sh mL mB (1 - (b2i (0 ≤ x1 ∧ x1 < nC)))) H := hP
      have hD : va_D A (wM cI cJ cZ q pw co la vo nC par div dee use mrun nT due lat wk nE tk ld rule now stx_10 asl idnx_14 idlx_13 spx_11 pex_12 tin slp late srv hv av bd sh mL mB (1 - (b2i (0 ≤ x1 ∧ x1 < nC)))) := hD
      have hsc9 := r_7
      refine lv_aload_n hx hb dX8_use_35 rfl (lv_at hl 0 rfl) ?_
      refine va_get (D := (dC, dI)) (ci := 8) (v := .ref (q 8)) (C := RX8) (T := TX8) (N := 36) hx hb hts hinX8 hown hK.1 hP 0 rfl rfl 8 (by decide) (hts _ (List.mem_of_getElem? (i := 1) rfl)) (fun _ h9 => h9) rfl dX8_use_36 ?_
      refine lv_iload_n hx hb dX8_use_39 rfl (lv_at hl 1 rfl) ?_
      refine lv_dup2_11 hx hb dX8_use_40 rfl rfl ?_
      refine za_ld hx hb hK hP 8 0 rfl rfl (by omega) (by omega) dX8_use_41 ?_
      have e_15 := huse x1 (by omega) (by omega)
      refine lv_iconst (v := iI 1) hx hb dX8_use_42 rfl ?_
      refine zi_add hx hb dX8_use_43 ?_
      refine za_st hx hb hK hP hD hS 8 0 rfl rfl (by omega) (by omega) dX8_use_44 (fun H locs hP hD hS => ?_)
      have hP : va_P (dC, dI) vwCl (wM cI cJ cZ q pw co la vo nC par div dee (uZ use x1 ((use x1) + 1)) mrun nT due lat wk nE tk ld rule now stx_10 asl idnx_14 idlx_13 spx_11 pex_12 tin slp late srv hv av bd sh mL mB (1 - (b2i (0 ≤ x1 ∧ x1 < nC)))) H := hP
      have hD : va_D A (wM cI cJ cZ q pw co la vo nC par div dee (uZ use x1 ((use x1) + 1)) mrun nT due lat wk nE tk ld rule now stx_10 asl idnx_14 idlx_13 spx_11 pex_12 tin slp late srv hv av bd sh mL mB (1 - (b2i (0 ≤ x1 ∧ x1 < nC)))) := hD
      refine lv_aload_n hx hb dX8_use_45 rfl (lv_at hl 0 rfl) ?_
      refine va_get (D := (dC, dI)) (ci := 8) (v := .ref (q 8)) (C := RX8) (T := TX8) (N := 36) hx hb hts hinX8 hown hK.1 hP 0 rfl rfl 8 (by decide) (hts _ (List.mem_of_getElem? (i := 1) rfl)) (fun _ h9 => h9) rfl dX8_use_46 ?_
      refine lv_iload_n hx hb dX8_use_49 rfl (lv_at hl 1 rfl) ?_
      refine za_ld hx hb hK hP 8 0 rfl rfl (by omega) (by omega) dX8_use_50 ?_
      subst hQ
      exact zret_i (W1 := fun u9 : Int × Int × Int × Int × Int × (Int → Int) × Int × (Int → Int) => wM cI cJ cZ q pw co la vo nC par div dee (u9.2.2.2.2.2.2.2) mrun nT due lat wk nE tk ld rule now (u9.2.2.1) asl (u9.2.2.2.2.2.2.1) (u9.2.2.2.2.2.1) (u9.2.2.2.1) (u9.2.2.2.2.1) tin slp late srv hv av bd sh mL mB (u9.2.1)) ((uZ use x1 ((use x1) + 1)) x1, 1 - (b2i (0 ≤ x1 ∧ x1 < nC)), stx_10, spx_11, pex_12, idlx_13, idnx_14, uZ use x1 ((use x1) + 1)) hx hb hr hP hD hS hlocks dX8_use_51 (by first | (exact ⟨rfl, Or.inl (⟨by omega, by omega, by (first | rfl | (rw [b2i_t (by omega)]; done) | (rw [b2i_f (by omega)]; done) | (rw [b2i_t (by omega)]; rfl) | (rw [b2i_f (by omega)]; rfl)), by exact uZ_s _ _ _, by exact hsc9, by rfl⟩)⟩) | (exact ⟨rfl, Or.inr (Or.inl (⟨by omega, by (first | rfl | (rw [b2i_t (by omega)]; done) | (rw [b2i_f (by omega)]; done) | (rw [b2i_t (by omega)]; rfl) | (rw [b2i_f (by omega)]; rfl)), rfl, rfl, rfl, rfl, rfl, rfl⟩))⟩) | (exact ⟨rfl, Or.inr (Or.inr (⟨by omega, by omega, by (first | rfl | (rw [b2i_t (by omega)]; done) | (rw [b2i_f (by omega)]; done) | (rw [b2i_t (by omega)]; rfl) | (rw [b2i_f (by omega)]; rfl)), rfl, rfl, rfl, rfl, rfl, rfl⟩))⟩))
    · skip
      refine lv_aload_n hx hb dX8_use_25 rfl (lv_at hl 0 rfl) ?_
      refine lv_iconst (v := iI 2) hx hb dX8_use_26 rfl ?_
      refine zc_i (va_runV (As := [.int (iI 2)]) (rest := []) ⟨hx, hb, hml, hown, hts⟩ (kX8_fails l dC dI cI cJ cZ q pw co la vo nC par div dee use mrun nT due lat wk nE tk ld rule now st asl idn idl sp pe tin slp late srv hv av bd sh mL mB (1 - (b2i (0 ≤ x1 ∧ x1 < nC))) 2 H.size) (cwV 1 hts gX8_use_X8_fails rfl rfl rfl (by decide +kernel) ⟨Nat.le_of_ble_eq_true rfl, Nat.le_of_ble_eq_true rfl⟩) (zpV hK hP hD [0, 1, 2, 3, 4, 5, 6, 7, 8, 9, 10, 11, 12, 13, 14, 15, 16, 17, 18, 19] rfl rfl 0 rfl rfl) rfl rfl hl.1 rfl (lv_room (Nat.le_of_ble_eq_true rfl)) dX8_use_27 ⟨Nat.le_of_ble_eq_true rfl, Nat.le_of_ble_eq_true rfl⟩) hP hD hS hA [0, 1, 2, 3, 4, 5, 6, 7, 8, 9, 10, 11, 12, 13, 14, 15, 16, 17, 18, 19] [] rfl rfl rfl (by decide) (fun v_18 u_17 H locs r_16 hP hD hS => ?_)
      refine ze_i r_16 ?_
      have hP : va_P (dC, dI) vwCl (wM cI cJ cZ q pw co la vo nC par div dee use mrun nT due lat wk nE tk ld rule now st asl idn idl sp pe tin slp late srv hv av bd sh mL mB 2) H := hP
      have hD : va_D A (wM cI cJ cZ q pw co la vo nC par div dee use mrun nT due lat wk nE tk ld rule now st asl idn idl sp pe tin slp late srv hv av bd sh mL mB 2) := hD
      subst hQ
      exact zret_i (W1 := fun u9 : Int × Int × Int × Int × Int × (Int → Int) × Int × (Int → Int) => wM cI cJ cZ q pw co la vo nC par div dee (u9.2.2.2.2.2.2.2) mrun nT due lat wk nE tk ld rule now (u9.2.2.1) asl (u9.2.2.2.2.2.2.1) (u9.2.2.2.2.2.1) (u9.2.2.2.1) (u9.2.2.2.2.1) tin slp late srv hv av bd sh mL mB (u9.2.1)) (0, 2, st, sp, pe, idl, idn, use) hx hb hr hP hD hS hlocks dX8_use_30 (by first | (exact ⟨rfl, Or.inl (⟨by omega, by omega, by (first | rfl | (rw [b2i_t (by omega)]; done) | (rw [b2i_f (by omega)]; done) | (rw [b2i_t (by omega)]; rfl) | (rw [b2i_f (by omega)]; rfl)), by exact uZ_s _ _ _, by exact hsc9, by rfl⟩)⟩) | (exact ⟨rfl, Or.inr (Or.inl (⟨by omega, by (first | rfl | (rw [b2i_t (by omega)]; done) | (rw [b2i_f (by omega)]; done) | (rw [b2i_t (by omega)]; rfl) | (rw [b2i_f (by omega)]; rfl)), rfl, rfl, rfl, rfl, rfl, rfl⟩))⟩) | (exact ⟨rfl, Or.inr (Or.inr (⟨by omega, by omega, by (first | rfl | (rw [b2i_t (by omega)]; done) | (rw [b2i_f (by omega)]; done) | (rw [b2i_t (by omega)]; rfl) | (rw [b2i_f (by omega)]; rfl)), rfl, rfl, rfl, rfl, rfl, rfl⟩))⟩))
  · skip
    refine lv_iconst (v := iI 0) hx hb dX8_use_12 rfl ?_
    subst hQ
    exact zret_i (W1 := fun u9 : Int × Int × Int × Int × Int × (Int → Int) × Int × (Int → Int) => wM cI cJ cZ q pw co la vo nC par div dee (u9.2.2.2.2.2.2.2) mrun nT due lat wk nE tk ld rule now (u9.2.2.1) asl (u9.2.2.2.2.2.2.1) (u9.2.2.2.2.2.1) (u9.2.2.2.1) (u9.2.2.2.2.1) tin slp late srv hv av bd sh mL mB (u9.2.1)) (0, 1 - (b2i (0 ≤ x1 ∧ x1 < nC)), st, sp, pe, idl, idn, use) hx hb hr hP hD hS hlocks dX8_use_13 (by first | (exact ⟨rfl, Or.inl (⟨by omega, by omega, by (first | rfl | (rw [b2i_t (by omega)]; done) | (rw [b2i_f (by omega)]; done) | (rw [b2i_t (by omega)]; rfl) | (rw [b2i_f (by omega)]; rfl)), by exact uZ_s _ _ _, by exact hsc9, by rfl⟩)⟩) | (exact ⟨rfl, Or.inr (Or.inl (⟨by omega, by (first | rfl | (rw [b2i_t (by omega)]; done) | (rw [b2i_f (by omega)]; done) | (rw [b2i_t (by omega)]; rfl) | (rw [b2i_f (by omega)]; rfl)), rfl, rfl, rfl, rfl, rfl, rfl⟩))⟩) | (exact ⟨rfl, Or.inr (Or.inr (⟨by omega, by omega, by (first | rfl | (rw [b2i_t (by omega)]; done) | (rw [b2i_f (by omega)]; done) | (rw [b2i_t (by omega)]; rfl) | (rw [b2i_f (by omega)]; rfl)), rfl, rfl, rfl, rfl, rfl, rfl⟩))⟩))
def rmX8_release : Room := { frames := 2, cells := 0, slots := 0, locals := 42 }
set_option maxRecDepth 100000 in
set_option maxHeartbeats 4000000 in
theorem kX8_release (l : Launch) (dC : Nat → ClassId) (dI : Nat → Nat → Nat) (cI cJ cZ : ClassId) (q : Nat → Nat)  (pw : Int → Int) (co : Int → Int) (la : Int → Int) (vo : Int → Int) (nC : Int) (par : Int → Int) (div : Int → Int) (dee : Int → Int) (use : Int → Int) (mrun : Int → Int) (nT : Int) (due : Int → Int) (lat : Int → Int) (wk : Int → Int) (nE : Int) (tk : Int → Int) (ld : Int → Int) (rule : Int) (now : Int) (st : Int) (asl : Int) (idn : Int) (idl : Int → Int) (sp : Int) (pe : Int) (tin : Int → Int) (slp : Int) (late : Int) (srv : Int) (hv : Int → Int) (av : Int) (bd : Int) (sh : Int) (mL : Int → Int) (mB : Int → Int) (thr : Int) (x1 : Int) (hx1 : zR x1) (hst : 0 ≤ st ∧ st ≤ 3) (hpw : rgZ pw 4 1000) (hco : rgZ co 4 10000) (hla : rgZ la 4 100) (hidn : 0 ≤ idn ∧ idn ≤ 2000000) (hidl : rgZ idl 4 1000000) (hnC : 1 ≤ nC ∧ nC ≤ 8) (huse : rgZ use 8 9) : zMi l yX8_release wsX8_release rmX8_release (dC, dI) (zT cI cJ cZ) (wM cI cJ cZ q pw co la vo nC par div dee use mrun nT due lat wk nE tk ld rule now st asl idn idl sp pe tin slp late srv hv av bd sh mL mB thr) [.ref (q 0), .int (iI x1)] (fun (r9 : Int) (u9 : Int × Int × Int × Int × Int × (Int → Int) × Int × (Int → Int)) => r9 = (u9.1) ∧ (((0 ≤ x1 ∧ x1 < nC) ∧ (0 < use x1) ∧ (u9.2.1) = 0 ∧ (u9.1) = use x1 - 1 ∧ ((u9.2.2.1), (u9.2.2.2.1), (u9.2.2.2.2.1), (u9.2.2.2.2.2.1), (u9.2.2.2.2.2.2.1)) = scF pw la st asl now sp pe idl idn ∧ (u9.2.2.2.2.2.2.2) = uZ use x1 (use x1 - 1)) ∨ (¬ (0 ≤ x1 ∧ x1 < nC) ∧ (u9.2.1) = 1 ∧ (u9.2.2.1) = st ∧ (u9.2.2.2.1) = sp ∧ (u9.2.2.2.2.1) = pe ∧ (u9.2.2.2.2.2.1) = idl ∧ (u9.2.2.2.2.2.2.1) = idn ∧ (u9.2.2.2.2.2.2.2) = use) ∨ ((0 ≤ x1 ∧ x1 < nC) ∧ ¬ (0 < use x1) ∧ (u9.2.1) = 2 ∧ (u9.2.2.1) = st ∧ (u9.2.2.2.1) = sp ∧ (u9.2.2.2.2.1) = pe ∧ (u9.2.2.2.2.2.1) = idl ∧ (u9.2.2.2.2.2.2.1) = idn ∧ (u9.2.2.2.2.2.2.2) = use))) (fun u9 : Int × Int × Int × Int × Int × (Int → Int) × Int × (Int → Int) => wM cI cJ cZ q pw co la vo nC par div dee (u9.2.2.2.2.2.2.2) mrun nT due lat wk nE tk ld rule now (u9.2.2.1) asl (u9.2.2.2.2.2.2.1) (u9.2.2.2.2.2.1) (u9.2.2.2.1) (u9.2.2.2.2.1) tin slp late srv hv av bd sh mL mB (u9.2.1)) 0 0 := by
  refine zent_i (cc := cX8_release) (maxL := 2) (ret := (some .int)) (by decide +kernel) rfl (Nat.le_of_ble_eq_true rfl) ?_
  intro p e s m below meth c A ls hE hP hK hA hD hS hl
  obtain ⟨hx, hb, hr, hml, hown, hts, hlocks, hmn⟩ := hE
  have hinX8 : ∀ w ∈ u_ws RX8 TX8 36, w ∈ wsX8_release := by decide +kernel
  have hl : lv_has ls 2 [(0, .ref (q 0)), (1, .int (iI x1))] := hl
  refine z_gen (fun Q hQ => ?_)
  refine lv_aload_n hx hb dX8_release_0 rfl (lv_at hl 0 rfl) ?_
  refine lv_aload_n hx hb dX8_release_1 rfl (lv_at hl 0 rfl) ?_
  refine lv_iload_n hx hb dX8_release_2 rfl (lv_at hl 1 rfl) ?_
  refine zc_pi (va_runV (As := [.int (iI x1)]) (rest := [.ref (q 0)]) ⟨hx, hb, hml, hown, hts⟩ (kX8_isClock l dC dI cI cJ cZ q pw co la vo nC par div dee use mrun nT due lat wk nE tk ld rule now st asl idn idl sp pe tin slp late srv hv av bd sh mL mB thr x1 (by first | assumption | omega | exact b2i_01 _) (by first | assumption | omega | exact b2i_01 _)) (cwV 1 hts gX8_release_X8_isClock rfl rfl rfl (by decide +kernel) ⟨Nat.le_of_ble_eq_true rfl, Nat.le_of_ble_eq_true rfl⟩) (zqV hK hP [0, 1, 2, 3, 4, 5, 6, 7, 8, 9, 10, 11, 12, 13, 14, 15, 16, 17, 18, 19] rfl 0 rfl rfl) rfl rfl hl.1 rfl (lv_room (Nat.le_of_ble_eq_true rfl)) dX8_release_3 ⟨Nat.le_of_ble_eq_true rfl, Nat.le_of_ble_eq_true rfl⟩) ?_
  refine zc_i (va_runV (As := [.int (iI (b2i (0 ≤ x1 ∧ x1 < nC)))]) (rest := []) ⟨hx, hb, hml, hown, hts⟩ (kX8_asks l dC dI cI cJ cZ q pw co la vo nC par div dee use mrun nT due lat wk nE tk ld rule now st asl idn idl sp pe tin slp late srv hv av bd sh mL mB thr (b2i (0 ≤ x1 ∧ x1 < nC)) (by first | assumption | omega | exact b2i_01 _) s.heap.size) (cwV 1 hts gX8_release_X8_asks rfl rfl rfl (by decide +kernel) ⟨Nat.le_of_ble_eq_true rfl, Nat.le_of_ble_eq_true rfl⟩) (zpV hK hP hD [0, 1, 2, 3, 4, 5, 6, 7, 8, 9, 10, 11, 12, 13, 14, 15, 16, 17, 18, 19] rfl rfl 0 rfl rfl) rfl rfl hl.1 rfl (lv_room (Nat.le_of_ble_eq_true rfl)) dX8_release_6 ⟨Nat.le_of_ble_eq_true rfl, Nat.le_of_ble_eq_true rfl⟩) hP hD hS hA [0, 1, 2, 3, 4, 5, 6, 7, 8, 9, 10, 11, 12, 13, 14, 15, 16, 17, 18, 19] [] rfl rfl rfl (by decide) (fun v_3 u_2 H locs r_1 hP hD hS => ?_)
  refine ze_i r_1 ?_
  have hP : va_P (dC, dI) vwCl (wM cI cJ cZ q pw co la vo nC par div dee use mrun nT due lat wk nE tk ld rule now st asl idn idl sp pe tin slp late srv hv av bd sh mL mB (1 - (b2i (0 ≤ x1 ∧ x1 < nC)))) H := hP
  have hD : va_D A (wM cI cJ cZ q pw co la vo nC par div dee use mrun nT due lat wk nE tk ld rule now st asl idn idl sp pe tin slp late srv hv av bd sh mL mB (1 - (b2i (0 ≤ x1 ∧ x1 < nC)))) := hD
  refine zb_fne (tgt := 14) hx hb dX8_release_9 (by decide) (fun c_4 => ?_) (fun c_4 => ?_)
  · skip
    refine lv_aload_n hx hb dX8_release_14 rfl (lv_at hl 0 rfl) ?_
    refine va_get (D := (dC, dI)) (ci := 8) (v := .ref (q 8)) (C := RX8) (T := TX8) (N := 36) hx hb hts hinX8 hown hK.1 hP 0 rfl rfl 8 (by decide) (hts _ (List.mem_of_getElem? (i := 1) rfl)) (fun _ h9 => h9) rfl dX8_release_15 ?_
    refine lv_iload_n hx hb dX8_release_18 rfl (lv_at hl 1 rfl) ?_
    refine za_ld hx hb hK hP 8 0 rfl rfl (by omega) (by omega) dX8_release_19 ?_
    have e_5 := huse x1 (by omega) (by omega)
    refine zi_fne (tgt := 29) hx hb (by omega) dX8_release_20 (by decide) (fun c_6 => ?_) (fun c_6 => ?_)
    · skip
      refine lv_aload_n hx hb dX8_release_29 rfl (lv_at hl 0 rfl) ?_
      refine zc_v (va_runV (As := []) (rest := []) ⟨hx, hb, hml, hown, hts⟩ (kX8_stirs l dC dI cI cJ cZ q pw co la vo nC par div dee use mrun nT due lat wk nE tk ld rule now st asl idn idl sp pe tin slp late srv hv av bd sh mL mB (1 - (b2i (0 ≤ x1 ∧ x1 < nC))) (by first | assumption | omega | exact b2i_01 _) (by first | assumption | omega | exact b2i_01 _) (by first | assumption | omega | exact b2i_01 _) (by first | assumption | omega | exact b2i_01 _) (by first | assumption | omega | exact b2i_01 _) (by first | assumption | omega | exact b2i_01 _) H.size) (cwV 0 hts gX8_release_X8_stirs rfl rfl rfl (by decide +kernel) ⟨Nat.le_of_ble_eq_true rfl, Nat.le_of_ble_eq_true rfl⟩) (zpV hK hP hD [0, 1, 2, 3, 4, 5, 6, 7, 8, 9, 10, 11, 12, 13, 14, 15, 16, 17, 18, 19] rfl rfl 0 rfl rfl) rfl rfl hl.1 rfl (lv_room (Nat.le_of_ble_eq_true rfl)) dX8_release_30 ⟨Nat.le_of_ble_eq_true rfl, Nat.le_of_ble_eq_true rfl⟩) hP hD hS hA [0, 1, 2, 3, 4, 5, 6, 7, 8, 9, 10, 11, 12, 13, 14, 15, 16, 17, 18, 19] [] rfl rfl rfl (by decide) (fun u_8 H locs r_7 hP hD hS => ?_)
      obtain ⟨stx_10, spx_11, pex_12, idlx_13, idnx_14⟩ := u_8
      have r_7 : (stx_10, spx_11, pex_12, idlx_13, idnx_14) = scF pw la st asl now sp pe idl idn := r_7
      have hP : va_P (dC, dI) vwCl (wM cI cJ cZ q pw co la vo nC par div dee use mrun nT due lat wk nE tk ld rule now stx_10 asl idnx_14 idlx_13 spx_11 pex_12 tin slp late srv hv av bd sh mL mB (1 - (b2i (0 ≤ x1 ∧ x1 < nC)))) H := hP
      have hD : va_D A (wM cI cJ cZ q pw co la vo nC par div dee use mrun nT due lat wk nE tk ld rule now stx_10 asl idnx_14 idlx_13 spx_11 pex_12 tin slp late srv hv av bd sh mL mB (1 - (b2i (0 ≤ x1 ∧ x1 < nC)))) := hD
      have hsc9 := r_7
      refine lv_aload_n hx hb dX8_release_33 rfl (lv_at hl 0 rfl) ?_
      refine va_get (D := (dC, dI)) (ci := 8) (v := .ref (q 8)) (C := RX8) (T := TX8) (N := 36) hx hb hts hinX8 hown hK.1 hP 0 rfl rfl 8 (by decide) (hts _ (List.mem_of_getElem? (i := 1) rfl)) (fun _ h9 => h9) rfl dX8_release_34 ?_
      refine lv_iload_n hx hb dX8_release_37 rfl (lv_at hl 1 rfl) ?_
      refine lv_dup2_11 hx hb dX8_release_38 rfl rfl ?_
      refine za_ld hx hb hK hP 8 0 rfl rfl (by omega) (by omega) dX8_release_39 ?_
      have e_15 := huse x1 (by omega) (by omega)
      refine lv_iconst (v := iI 1) hx hb dX8_release_40 rfl ?_
      refine zi_sub hx hb dX8_release_41 ?_
      refine za_st hx hb hK hP hD hS 8 0 rfl rfl (by omega) (by omega) dX8_release_42 (fun H locs hP hD hS => ?_)
      have hP : va_P (dC, dI) vwCl (wM cI cJ cZ q pw co la vo nC par div dee (uZ use x1 ((use x1) - 1)) mrun nT due lat wk nE tk ld rule now stx_10 asl idnx_14 idlx_13 spx_11 pex_12 tin slp late srv hv av bd sh mL mB (1 - (b2i (0 ≤ x1 ∧ x1 < nC)))) H := hP
      have hD : va_D A (wM cI cJ cZ q pw co la vo nC par div dee (uZ use x1 ((use x1) - 1)) mrun nT due lat wk nE tk ld rule now stx_10 asl idnx_14 idlx_13 spx_11 pex_12 tin slp late srv hv av bd sh mL mB (1 - (b2i (0 ≤ x1 ∧ x1 < nC)))) := hD
      refine lv_aload_n hx hb dX8_release_43 rfl (lv_at hl 0 rfl) ?_
      refine va_get (D := (dC, dI)) (ci := 8) (v := .ref (q 8)) (C := RX8) (T := TX8) (N := 36) hx hb hts hinX8 hown hK.1 hP 0 rfl rfl 8 (by decide) (hts _ (List.mem_of_getElem? (i := 1) rfl)) (fun _ h9 => h9) rfl dX8_release_44 ?_
      refine lv_iload_n hx hb dX8_release_47 rfl (lv_at hl 1 rfl) ?_
      refine za_ld hx hb hK hP 8 0 rfl rfl (by omega) (by omega) dX8_release_48 ?_
      subst hQ
      exact zret_i (W1 := fun u9 : Int × Int × Int × Int × Int × (Int → Int) × Int × (Int → Int) => wM cI cJ cZ q pw co la vo nC par div dee (u9.2.2.2.2.2.2.2) mrun nT due lat wk nE tk ld rule now (u9.2.2.1) asl (u9.2.2.2.2.2.2.1) (u9.2.2.2.2.2.1) (u9.2.2.2.1) (u9.2.2.2.2.1) tin slp late srv hv av bd sh mL mB (u9.2.1)) ((uZ use x1 ((use x1) - 1)) x1, 1 - (b2i (0 ≤ x1 ∧ x1 < nC)), stx_10, spx_11, pex_12, idlx_13, idnx_14, uZ use x1 ((use x1) - 1)) hx hb hr hP hD hS hlocks dX8_release_49 (by first | (exact ⟨rfl, Or.inl (⟨by omega, by omega, by (first | rfl | (rw [b2i_t (by omega)]; done) | (rw [b2i_f (by omega)]; done) | (rw [b2i_t (by omega)]; rfl) | (rw [b2i_f (by omega)]; rfl)), by exact uZ_s _ _ _, by exact hsc9, by rfl⟩)⟩) | (exact ⟨rfl, Or.inr (Or.inl (⟨by omega, by (first | rfl | (rw [b2i_t (by omega)]; done) | (rw [b2i_f (by omega)]; done) | (rw [b2i_t (by omega)]; rfl) | (rw [b2i_f (by omega)]; rfl)), rfl, rfl, rfl, rfl, rfl, rfl⟩))⟩) | (exact ⟨rfl, Or.inr (Or.inr (⟨by omega, by omega, by (first | rfl | (rw [b2i_t (by omega)]; done) | (rw [b2i_f (by omega)]; done) | (rw [b2i_t (by omega)]; rfl) | (rw [b2i_f (by omega)]; rfl)), rfl, rfl, rfl, rfl, rfl, rfl⟩))⟩))
    · skip
      refine lv_aload_n hx hb dX8_release_23 rfl (lv_at hl 0 rfl) ?_
      refine lv_iconst (v := iI 2) hx hb dX8_release_24 rfl ?_
      refine zc_i (va_runV (As := [.int (iI 2)]) (rest := []) ⟨hx, hb, hml, hown, hts⟩ (kX8_fails l dC dI cI cJ cZ q pw co la vo nC par div dee use mrun nT due lat wk nE tk ld rule now st asl idn idl sp pe tin slp late srv hv av bd sh mL mB (1 - (b2i (0 ≤ x1 ∧ x1 < nC))) 2 H.size) (cwV 1 hts gX8_release_X8_fails rfl rfl rfl (by decide +kernel) ⟨Nat.le_of_ble_eq_true rfl, Nat.le_of_ble_eq_true rfl⟩) (zpV hK hP hD [0, 1, 2, 3, 4, 5, 6, 7, 8, 9, 10, 11, 12, 13, 14, 15, 16, 17, 18, 19] rfl rfl 0 rfl rfl) rfl rfl hl.1 rfl (lv_room (Nat.le_of_ble_eq_true rfl)) dX8_release_25 ⟨Nat.le_of_ble_eq_true rfl, Nat.le_of_ble_eq_true rfl⟩) hP hD hS hA [0, 1, 2, 3, 4, 5, 6, 7, 8, 9, 10, 11, 12, 13, 14, 15, 16, 17, 18, 19] [] rfl rfl rfl (by decide) (fun v_18 u_17 H locs r_16 hP hD hS => ?_)
      refine ze_i r_16 ?_
      have hP : va_P (dC, dI) vwCl (wM cI cJ cZ q pw co la vo nC par div dee use mrun nT due lat wk nE tk ld rule now st asl idn idl sp pe tin slp late srv hv av bd sh mL mB 2) H := hP
      have hD : va_D A (wM cI cJ cZ q pw co la vo nC par div dee use mrun nT due lat wk nE tk ld rule now st asl idn idl sp pe tin slp late srv hv av bd sh mL mB 2) := hD
      subst hQ
      exact zret_i (W1 := fun u9 : Int × Int × Int × Int × Int × (Int → Int) × Int × (Int → Int) => wM cI cJ cZ q pw co la vo nC par div dee (u9.2.2.2.2.2.2.2) mrun nT due lat wk nE tk ld rule now (u9.2.2.1) asl (u9.2.2.2.2.2.2.1) (u9.2.2.2.2.2.1) (u9.2.2.2.1) (u9.2.2.2.2.1) tin slp late srv hv av bd sh mL mB (u9.2.1)) (0, 2, st, sp, pe, idl, idn, use) hx hb hr hP hD hS hlocks dX8_release_28 (by first | (exact ⟨rfl, Or.inl (⟨by omega, by omega, by (first | rfl | (rw [b2i_t (by omega)]; done) | (rw [b2i_f (by omega)]; done) | (rw [b2i_t (by omega)]; rfl) | (rw [b2i_f (by omega)]; rfl)), by exact uZ_s _ _ _, by exact hsc9, by rfl⟩)⟩) | (exact ⟨rfl, Or.inr (Or.inl (⟨by omega, by (first | rfl | (rw [b2i_t (by omega)]; done) | (rw [b2i_f (by omega)]; done) | (rw [b2i_t (by omega)]; rfl) | (rw [b2i_f (by omega)]; rfl)), rfl, rfl, rfl, rfl, rfl, rfl⟩))⟩) | (exact ⟨rfl, Or.inr (Or.inr (⟨by omega, by omega, by (first | rfl | (rw [b2i_t (by omega)]; done) | (rw [b2i_f (by omega)]; done) | (rw [b2i_t (by omega)]; rfl) | (rw [b2i_f (by omega)]; rfl)), rfl, rfl, rfl, rfl, rfl, rfl⟩))⟩))
  · skip
    refine lv_iconst (v := iI 0) hx hb dX8_release_12 rfl ?_
    subst hQ
    exact zret_i (W1 := fun u9 : Int × Int × Int × Int × Int × (Int → Int) × Int × (Int → Int) => wM cI cJ cZ q pw co la vo nC par div dee (u9.2.2.2.2.2.2.2) mrun nT due lat wk nE tk ld rule now (u9.2.2.1) asl (u9.2.2.2.2.2.2.1) (u9.2.2.2.2.2.1) (u9.2.2.2.1) (u9.2.2.2.2.1) tin slp late srv hv av bd sh mL mB (u9.2.1)) (0, 1 - (b2i (0 ≤ x1 ∧ x1 < nC)), st, sp, pe, idl, idn, use) hx hb hr hP hD hS hlocks dX8_release_13 (by first | (exact ⟨rfl, Or.inl (⟨by omega, by omega, by (first | rfl | (rw [b2i_t (by omega)]; done) | (rw [b2i_f (by omega)]; done) | (rw [b2i_t (by omega)]; rfl) | (rw [b2i_f (by omega)]; rfl)), by exact uZ_s _ _ _, by exact hsc9, by rfl⟩)⟩) | (exact ⟨rfl, Or.inr (Or.inl (⟨by omega, by (first | rfl | (rw [b2i_t (by omega)]; done) | (rw [b2i_f (by omega)]; done) | (rw [b2i_t (by omega)]; rfl) | (rw [b2i_f (by omega)]; rfl)), rfl, rfl, rfl, rfl, rfl, rfl⟩))⟩) | (exact ⟨rfl, Or.inr (Or.inr (⟨by omega, by omega, by (first | rfl | (rw [b2i_t (by omega)]; done) | (rw [b2i_f (by omega)]; done) | (rw [b2i_t (by omega)]; rfl) | (rw [b2i_f (by omega)]; rfl)), rfl, rfl, rfl, rfl, rfl, rfl⟩))⟩))
def rmX8_runs : Room := { frames := 1, cells := 0, slots := 0, locals := 21 }
set_option maxRecDepth 100000 in
set_option maxHeartbeats 4000000 in
theorem kX8_runs (l : Launch) (dC : Nat → ClassId) (dI : Nat → Nat → Nat) (cI cJ cZ : ClassId) (q : Nat → Nat)  (pw : Int → Int) (co : Int → Int) (la : Int → Int) (vo : Int → Int) (nC : Int) (par : Int → Int) (div : Int → Int) (dee : Int → Int) (use : Int → Int) (mrun : Int → Int) (nT : Int) (due : Int → Int) (lat : Int → Int) (wk : Int → Int) (nE : Int) (tk : Int → Int) (ld : Int → Int) (rule : Int) (now : Int) (st : Int) (asl : Int) (idn : Int) (idl : Int → Int) (sp : Int) (pe : Int) (tin : Int → Int) (slp : Int) (late : Int) (srv : Int) (hv : Int → Int) (av : Int) (bd : Int) (sh : Int) (mL : Int → Int) (mB : Int → Int) (thr : Int) (x1 : Int) (hx1 : zR x1) (hnC : 1 ≤ nC ∧ nC ≤ 8) (hpar : ∀ c : Int, 1 ≤ c → c < nC → 0 ≤ par c ∧ par c < c) (huse : rgZ use 8 9) (hmrun : tfZ mrun) : zMi l yX8_runs wsX8_runs rmX8_runs (dC, dI) (zT cI cJ cZ) (wM cI cJ cZ q pw co la vo nC par div dee use mrun nT due lat wk nE tk ld rule now st asl idn idl sp pe tin slp late srv hv av bd sh mL mB thr) [.ref (q 0), .int (iI x1)] (fun (r9 : Int) (u9 : Int × Int × (Int → Int)) => r9 = (u9.1) ∧ (((0 ≤ x1 ∧ x1 < nC) ∧ (u9.2.1) = 0 ∧ (u9.1) = (rnZ par (nC - 1) (r0Z use 8 mrun)) x1 ∧ (u9.2.2) = rnZ par (nC - 1) (r0Z use 8 mrun)) ∨ (¬ (0 ≤ x1 ∧ x1 < nC) ∧ (u9.2.1) = 1 ∧ (u9.2.2) = mrun))) (fun u9 : Int × Int × (Int → Int) => wM cI cJ cZ q pw co la vo nC par div dee use (u9.2.2) nT due lat wk nE tk ld rule now st asl idn idl sp pe tin slp late srv hv av bd sh mL mB (u9.2.1)) 0 0 := by
  refine zent_i (cc := cX8_runs) (maxL := 2) (ret := (some .boolean)) (by decide +kernel) rfl (Nat.le_of_ble_eq_true rfl) ?_
  intro p e s m below meth c A ls hE hP hK hA hD hS hl
  obtain ⟨hx, hb, hr, hml, hown, hts, hlocks, hmn⟩ := hE
  have hinX8 : ∀ w ∈ u_ws RX8 TX8 36, w ∈ wsX8_runs := by decide +kernel
  have hl : lv_has ls 2 [(0, .ref (q 0)), (1, .int (iI x1))] := hl
  refine z_gen (fun Q hQ => ?_)
  refine lv_aload_n hx hb dX8_runs_0 rfl (lv_at hl 0 rfl) ?_
  refine lv_aload_n hx hb dX8_runs_1 rfl (lv_at hl 0 rfl) ?_
  refine lv_iload_n hx hb dX8_runs_2 rfl (lv_at hl 1 rfl) ?_
  refine zc_pi (va_runV (As := [.int (iI x1)]) (rest := [.ref (q 0)]) ⟨hx, hb, hml, hown, hts⟩ (kX8_isClock l dC dI cI cJ cZ q pw co la vo nC par div dee use mrun nT due lat wk nE tk ld rule now st asl idn idl sp pe tin slp late srv hv av bd sh mL mB thr x1 (by first | assumption | omega | exact b2i_01 _) (by first | assumption | omega | exact b2i_01 _)) (cwV 1 hts gX8_runs_X8_isClock rfl rfl rfl (by decide +kernel) ⟨Nat.le_of_ble_eq_true rfl, Nat.le_of_ble_eq_true rfl⟩) (zqV hK hP [0, 1, 2, 3, 4, 5, 6, 7, 8, 9, 10, 11, 12, 13, 14, 15, 16, 17, 18, 19] rfl 0 rfl rfl) rfl rfl hl.1 rfl (lv_room (Nat.le_of_ble_eq_true rfl)) dX8_runs_3 ⟨Nat.le_of_ble_eq_true rfl, Nat.le_of_ble_eq_true rfl⟩) ?_
  refine zc_i (va_runV (As := [.int (iI (b2i (0 ≤ x1 ∧ x1 < nC)))]) (rest := []) ⟨hx, hb, hml, hown, hts⟩ (kX8_asks l dC dI cI cJ cZ q pw co la vo nC par div dee use mrun nT due lat wk nE tk ld rule now st asl idn idl sp pe tin slp late srv hv av bd sh mL mB thr (b2i (0 ≤ x1 ∧ x1 < nC)) (by first | assumption | omega | exact b2i_01 _) s.heap.size) (cwV 1 hts gX8_runs_X8_asks rfl rfl rfl (by decide +kernel) ⟨Nat.le_of_ble_eq_true rfl, Nat.le_of_ble_eq_true rfl⟩) (zpV hK hP hD [0, 1, 2, 3, 4, 5, 6, 7, 8, 9, 10, 11, 12, 13, 14, 15, 16, 17, 18, 19] rfl rfl 0 rfl rfl) rfl rfl hl.1 rfl (lv_room (Nat.le_of_ble_eq_true rfl)) dX8_runs_6 ⟨Nat.le_of_ble_eq_true rfl, Nat.le_of_ble_eq_true rfl⟩) hP hD hS hA [0, 1, 2, 3, 4, 5, 6, 7, 8, 9, 10, 11, 12, 13, 14, 15, 16, 17, 18, 19] [] rfl rfl rfl (by decide) (fun v_3 u_2 H locs r_1 hP hD hS => ?_)
  refine ze_i r_1 ?_
  have hP : va_P (dC, dI) vwCl (wM cI cJ cZ q pw co la vo nC par div dee use mrun nT due lat wk nE tk ld rule now st asl idn idl sp pe tin slp late srv hv av bd sh mL mB (1 - (b2i (0 ≤ x1 ∧ x1 < nC)))) H := hP
  have hD : va_D A (wM cI cJ cZ q pw co la vo nC par div dee use mrun nT due lat wk nE tk ld rule now st asl idn idl sp pe tin slp late srv hv av bd sh mL mB (1 - (b2i (0 ≤ x1 ∧ x1 < nC)))) := hD
  refine zb_fne (tgt := 14) hx hb dX8_runs_9 (by decide) (fun c_4 => ?_) (fun c_4 => ?_)
  · skip
    refine lv_aload_n hx hb dX8_runs_14 rfl (lv_at hl 0 rfl) ?_
    refine zc_v (va_runV (As := []) (rest := []) ⟨hx, hb, hml, hown, hts⟩ (kX8_findsRunning l dC dI cI cJ cZ q pw co la vo nC par div dee use mrun nT due lat wk nE tk ld rule now st asl idn idl sp pe tin slp late srv hv av bd sh mL mB (1 - (b2i (0 ≤ x1 ∧ x1 < nC))) (by first | assumption | omega | exact b2i_01 _) (by first | assumption | omega | exact b2i_01 _) (by first | assumption | omega | exact b2i_01 _) (by first | assumption | omega | exact b2i_01 _) H.size) (cwV 0 hts gX8_runs_X8_findsRunning rfl rfl rfl (by decide +kernel) ⟨Nat.le_of_ble_eq_true rfl, Nat.le_of_ble_eq_true rfl⟩) (zpV hK hP hD [0, 1, 2, 3, 4, 5, 6, 7, 8, 9, 10, 11, 12, 13, 14, 15, 16, 17, 18, 19] rfl rfl 0 rfl rfl) rfl rfl hl.1 rfl (lv_room (Nat.le_of_ble_eq_true rfl)) dX8_runs_15 ⟨Nat.le_of_ble_eq_true rfl, Nat.le_of_ble_eq_true rfl⟩) hP hD hS hA [0, 1, 2, 3, 4, 5, 6, 7, 8, 9, 10, 11, 12, 13, 14, 15, 16, 17, 18, 19] [] rfl rfl rfl (by decide) (fun u_6 H locs r_5 hP hD hS => ?_)
    have hP : va_P (dC, dI) vwCl (wM cI cJ cZ q pw co la vo nC par div dee use (rnZ par (nC - 1) (r0Z use 8 mrun)) nT due lat wk nE tk ld rule now st asl idn idl sp pe tin slp late srv hv av bd sh mL mB (1 - (b2i (0 ≤ x1 ∧ x1 < nC)))) H := hP
    have hD : va_D A (wM cI cJ cZ q pw co la vo nC par div dee use (rnZ par (nC - 1) (r0Z use 8 mrun)) nT due lat wk nE tk ld rule now st asl idn idl sp pe tin slp late srv hv av bd sh mL mB (1 - (b2i (0 ≤ x1 ∧ x1 < nC)))) := hD
    refine lv_aload_n hx hb dX8_runs_18 rfl (lv_at hl 0 rfl) ?_
    refine va_get (D := (dC, dI)) (ci := 8) (v := .ref (q 9)) (C := RX8) (T := TX8) (N := 36) hx hb hts hinX8 hown hK.1 hP 0 rfl rfl 9 (by decide) (hts _ (List.mem_of_getElem? (i := 1) rfl)) (fun _ h9 => h9) rfl dX8_runs_19 ?_
    refine lv_iload_n hx hb dX8_runs_22 rfl (lv_at hl 1 rfl) ?_
    have ht9 := rn_t (par := par) (n := nC - 1) (r0_t (use := use) (n := 8) hmrun)
    have hz9 := ht9 x1 (by omega) (by omega)
    refine za_zld hx hb hK hP 9 2 rfl rfl (by omega) (by omega) dX8_runs_23 ?_
    subst hQ
    exact zret_z (W1 := fun u9 : Int × Int × (Int → Int) => wM cI cJ cZ q pw co la vo nC par div dee use (u9.2.2) nT due lat wk nE tk ld rule now st asl idn idl sp pe tin slp late srv hv av bd sh mL mB (u9.2.1)) ((rnZ par (nC - 1) (r0Z use 8 mrun)) x1, 1 - (b2i (0 ≤ x1 ∧ x1 < nC)), rnZ par (nC - 1) (r0Z use 8 mrun)) hx hb hr hP hD hS hlocks dX8_runs_24 (by first | decide | omega) (by first | (exact ⟨rfl, Or.inl (⟨by omega, by (first | rfl | (rw [b2i_t (by omega)]; done) | (rw [b2i_f (by omega)]; done) | (rw [b2i_t (by omega)]; rfl) | (rw [b2i_f (by omega)]; rfl)), by first | rfl | omega, by rfl⟩)⟩) | (exact ⟨rfl, Or.inr (⟨by omega, by (first | rfl | (rw [b2i_t (by omega)]; done) | (rw [b2i_f (by omega)]; done) | (rw [b2i_t (by omega)]; rfl) | (rw [b2i_f (by omega)]; rfl)), rfl⟩)⟩))
  · skip
    refine lv_iconst (v := iI 0) hx hb dX8_runs_12 rfl ?_
    subst hQ
    exact zret_z (W1 := fun u9 : Int × Int × (Int → Int) => wM cI cJ cZ q pw co la vo nC par div dee use (u9.2.2) nT due lat wk nE tk ld rule now st asl idn idl sp pe tin slp late srv hv av bd sh mL mB (u9.2.1)) (0, 1 - (b2i (0 ≤ x1 ∧ x1 < nC)), mrun) hx hb hr hP hD hS hlocks dX8_runs_13 (by first | decide | omega) (by first | (exact ⟨rfl, Or.inl (⟨by omega, by (first | rfl | (rw [b2i_t (by omega)]; done) | (rw [b2i_f (by omega)]; done) | (rw [b2i_t (by omega)]; rfl) | (rw [b2i_f (by omega)]; rfl)), by first | rfl | omega, by rfl⟩)⟩) | (exact ⟨rfl, Or.inr (⟨by omega, by (first | rfl | (rw [b2i_t (by omega)]; done) | (rw [b2i_f (by omega)]; done) | (rw [b2i_t (by omega)]; rfl) | (rw [b2i_f (by omega)]; rfl)), rfl⟩)⟩))
def rmX8_frequency : Room := { frames := 1, cells := 0, slots := 0, locals := 21 }
set_option maxRecDepth 100000 in
set_option maxHeartbeats 4000000 in
theorem kX8_frequency (l : Launch) (dC : Nat → ClassId) (dI : Nat → Nat → Nat) (cI cJ cZ : ClassId) (q : Nat → Nat)  (pw : Int → Int) (co : Int → Int) (la : Int → Int) (vo : Int → Int) (nC : Int) (par : Int → Int) (div : Int → Int) (dee : Int → Int) (use : Int → Int) (mrun : Int → Int) (nT : Int) (due : Int → Int) (lat : Int → Int) (wk : Int → Int) (nE : Int) (tk : Int → Int) (ld : Int → Int) (rule : Int) (now : Int) (st : Int) (asl : Int) (idn : Int) (idl : Int → Int) (sp : Int) (pe : Int) (tin : Int → Int) (slp : Int) (late : Int) (srv : Int) (hv : Int → Int) (av : Int) (bd : Int) (sh : Int) (mL : Int → Int) (mB : Int → Int) (thr : Int) (x1 : Int) (hx1 : zR x1) (hnC : 1 ≤ nC ∧ nC ≤ 8) (hpar : ∀ c : Int, 1 ≤ c → c < nC → 0 ≤ par c ∧ par c < c) (hdv : ∀ c : Int, 1 ≤ c → c < nC → 1 ≤ div c ∧ div c ≤ 64) : zMi l yX8_frequency wsX8_frequency rmX8_frequency (dC, dI) (zT cI cJ cZ) (wM cI cJ cZ q pw co la vo nC par div dee use mrun nT due lat wk nE tk ld rule now st asl idn idl sp pe tin slp late srv hv av bd sh mL mB thr) [.ref (q 0), .int (iI x1)] (fun (r9 : Int) (u9 : Int × Int) => r9 = (u9.1) ∧ (((0 ≤ x1 ∧ x1 < nC) ∧ (u9.2) = 0 ∧ (u9.1) = 4800 / fqN par div 8 x1 1) ∨ (¬ (0 ≤ x1 ∧ x1 < nC) ∧ (u9.2) = 1))) (fun u9 : Int × Int => wM cI cJ cZ q pw co la vo nC par div dee use mrun nT due lat wk nE tk ld rule now st asl idn idl sp pe tin slp late srv hv av bd sh mL mB (u9.2)) 0 0 := by
  refine zent_i (cc := cX8_frequency) (maxL := 4) (ret := (some .int)) (by decide +kernel) rfl (Nat.le_of_ble_eq_true rfl) ?_
  intro p e s m below meth c A ls hE hP hK hA hD hS hl
  obtain ⟨hx, hb, hr, hml, hown, hts, hlocks, hmn⟩ := hE
  have hinX8 : ∀ w ∈ u_ws RX8 TX8 36, w ∈ wsX8_frequency := by decide +kernel
  have hl : lv_has ls 4 [(0, .ref (q 0)), (1, .int (iI x1))] := hl
  refine z_gen (fun Q hQ => ?_)
  refine lv_aload_n hx hb dX8_frequency_0 rfl (lv_at hl 0 rfl) ?_
  refine lv_aload_n hx hb dX8_frequency_1 rfl (lv_at hl 0 rfl) ?_
  refine lv_iload_n hx hb dX8_frequency_2 rfl (lv_at hl 1 rfl) ?_
  refine zc_pi (va_runV (As := [.int (iI x1)]) (rest := [.ref (q 0)]) ⟨hx, hb, hml, hown, hts⟩ (kX8_isClock l dC dI cI cJ cZ q pw co la vo nC par div dee use mrun nT due lat wk nE tk ld rule now st asl idn idl sp pe tin slp late srv hv av bd sh mL mB thr x1 (by first | assumption | omega | exact b2i_01 _) (by first | assumption | omega | exact b2i_01 _)) (cwV 1 hts gX8_frequency_X8_isClock rfl rfl rfl (by decide +kernel) ⟨Nat.le_of_ble_eq_true rfl, Nat.le_of_ble_eq_true rfl⟩) (zqV hK hP [0, 1, 2, 3, 4, 5, 6, 7, 8, 9, 10, 11, 12, 13, 14, 15, 16, 17, 18, 19] rfl 0 rfl rfl) rfl rfl hl.1 rfl (lv_room (Nat.le_of_ble_eq_true rfl)) dX8_frequency_3 ⟨Nat.le_of_ble_eq_true rfl, Nat.le_of_ble_eq_true rfl⟩) ?_
  refine zc_i (va_runV (As := [.int (iI (b2i (0 ≤ x1 ∧ x1 < nC)))]) (rest := []) ⟨hx, hb, hml, hown, hts⟩ (kX8_asks l dC dI cI cJ cZ q pw co la vo nC par div dee use mrun nT due lat wk nE tk ld rule now st asl idn idl sp pe tin slp late srv hv av bd sh mL mB thr (b2i (0 ≤ x1 ∧ x1 < nC)) (by first | assumption | omega | exact b2i_01 _) s.heap.size) (cwV 1 hts gX8_frequency_X8_asks rfl rfl rfl (by decide +kernel) ⟨Nat.le_of_ble_eq_true rfl, Nat.le_of_ble_eq_true rfl⟩) (zpV hK hP hD [0, 1, 2, 3, 4, 5, 6, 7, 8, 9, 10, 11, 12, 13, 14, 15, 16, 17, 18, 19] rfl rfl 0 rfl rfl) rfl rfl hl.1 rfl (lv_room (Nat.le_of_ble_eq_true rfl)) dX8_frequency_6 ⟨Nat.le_of_ble_eq_true rfl, Nat.le_of_ble_eq_true rfl⟩) hP hD hS hA [0, 1, 2, 3, 4, 5, 6, 7, 8, 9, 10, 11, 12, 13, 14, 15, 16, 17, 18, 19] [] rfl rfl rfl (by decide) (fun v_3 u_2 H locs r_1 hP hD hS => ?_)
  refine ze_i r_1 ?_
  have hP : va_P (dC, dI) vwCl (wM cI cJ cZ q pw co la vo nC par div dee use mrun nT due lat wk nE tk ld rule now st asl idn idl sp pe tin slp late srv hv av bd sh mL mB (1 - (b2i (0 ≤ x1 ∧ x1 < nC)))) H := hP
  have hD : va_D A (wM cI cJ cZ q pw co la vo nC par div dee use mrun nT due lat wk nE tk ld rule now st asl idn idl sp pe tin slp late srv hv av bd sh mL mB (1 - (b2i (0 ≤ x1 ∧ x1 < nC)))) := hD
  refine zb_fne (tgt := 14) hx hb dX8_frequency_9 (by decide) (fun c_4 => ?_) (fun c_4 => ?_)
  · skip
    refine lv_iconst (v := iI 1) hx hb dX8_frequency_14 rfl ?_
    refine lv_istore_n (lv' := [(2, .int (iI 1)), (0, .ref (q 0)), (1, .int (iI x1))]) hx hb dX8_frequency_15 rfl hl (by decide) rfl (fun ls hl => ?_)
    refine lv_iload_n hx hb dX8_frequency_16 rfl (lv_at hl 2 rfl) ?_
    refine lv_istore_n (lv' := [(3, .int (iI x1)), (2, .int (iI 1)), (0, .ref (q 0)), (1, .int (iI x1))]) hx hb dX8_frequency_17 rfl hl (by decide) rfl (fun ls hl => ?_)
    have L18 : ∀ (fuel : Nat) (c9 : Int) (a9 : Int) (f9 : Nat), (0 ≤ c9 ∧ c9 < nC ∧ c9 ≤ f9) → (1 ≤ a9 ∧ a9 ≤ 4801) → (fqN par div 8 x1 1 = fqN par div f9 c9 a9) → (c9.toNat) < fuel → ∀ (H : Heap) (locs : List Loc), va_P (dC, dI) vwCl (wM cI cJ cZ q pw co la vo nC par div dee use mrun nT due lat wk nE tk ld rule now st asl idn idl sp pe tin slp late srv hv av bd sh mL mB (1 - (b2i (0 ≤ x1 ∧ x1 < nC)))) H → va_D A (wM cI cJ cZ q pw co la vo nC par div dee use mrun nT due lat wk nE tk ld rule now st asl idn idl sp pe tin slp late srv hv av bd sh mL mB (1 - (b2i (0 ≤ x1 ∧ x1 < nC)))) → va_S A s.heap H locs → ∀ ls : Array Slot, lv_has ls 4 [(3, .int (iI c9)), (2, .int (iI a9)), (0, .ref (q 0)), (1, .int (iI x1))] → W p l e rmX8_frequency s m ([.ref (q 0), .int (iI x1)] : List Value).toArray below meth c H locs 0 0 Q (F0 m 18 ls []) := by
      intro fuel
      induction fuel with
      | zero =>
        intro c9 a9 f9 hc9 ha9 hI hmeas H locs hP hD hS ls hl
        exact absurd hmeas (by omega)
      | succ fuel ih =>
        intro c9 a9 f9 hc9 ha9 hI hmeas H locs hP hD hS ls hl
        refine lv_iload_n hx hb dX8_frequency_18 rfl (lv_at hl 0 rfl) ?_
        refine zi_fle (tgt := 56) hx hb (by omega) dX8_frequency_19 (by decide) (fun c_5 => ?_) (fun c_5 => ?_)
        · skip
          refine lv_sipush (v := iI 4800) hx hb dX8_frequency_56 (by decide) ?_
          refine lv_iload_n hx hb dX8_frequency_59 rfl (lv_at hl 1 rfl) ?_
          refine zi_div hx hb (by omega) (by omega) dX8_frequency_60 ?_
          subst hQ
          exact zret_i (W1 := fun u9 : Int × Int => wM cI cJ cZ q pw co la vo nC par div dee use mrun nT due lat wk nE tk ld rule now st asl idn idl sp pe tin slp late srv hv av bd sh mL mB (u9.2)) (4800 / a9, 1 - (b2i (0 ≤ x1 ∧ x1 < nC))) hx hb hr hP hD hS hlocks dX8_frequency_61 (by first | (exact ⟨rfl, Or.inl (⟨by omega, by (first | rfl | (rw [b2i_t (by omega)]; done) | (rw [b2i_f (by omega)]; done) | (rw [b2i_t (by omega)]; rfl) | (rw [b2i_f (by omega)]; rfl)), by rw [hI, fq_0 (by omega)]⟩)⟩) | (exact ⟨rfl, Or.inr (⟨by omega, by (first | rfl | (rw [b2i_t (by omega)]; done) | (rw [b2i_f (by omega)]; done) | (rw [b2i_t (by omega)]; rfl) | (rw [b2i_f (by omega)]; rfl))⟩)⟩))
        · skip
          refine lv_iload_n hx hb dX8_frequency_22 rfl (lv_at hl 1 rfl) ?_
          refine lv_aload_n hx hb dX8_frequency_23 rfl (lv_at hl 2 rfl) ?_
          refine va_get (D := (dC, dI)) (ci := 8) (v := .ref (q 6)) (C := RX8) (T := TX8) (N := 36) hx hb hts hinX8 hown hK.1 hP 0 rfl rfl 6 (by decide) (hts _ (List.mem_of_getElem? (i := 1) rfl)) (fun _ h9 => h9) rfl dX8_frequency_24 ?_
          refine lv_iload_n hx hb dX8_frequency_27 rfl (lv_at hl 0 rfl) ?_
          refine za_ld hx hb hK hP 6 0 rfl rfl (by omega) (by omega) dX8_frequency_28 ?_
          have e_6 := hdv c9 (by omega) (by omega)
          refine zi_mul hx hb dX8_frequency_29 ?_
          have hm9 := mul_r (a := a9) (b := div c9) (M := 4801) (N := 64) (by omega) (by have := hdv c9 (by omega) (by omega); omega)
          have hm8 : 1 * 1 ≤ a9 * div c9 := Int.mul_le_mul (by omega) (by have := hdv c9 (by omega) (by omega); omega) (by omega) (by omega)
          refine lv_istore_n (lv' := [(2, .int (iI (a9 * (div c9)))), (3, .int (iI c9)), (0, .ref (q 0)), (1, .int (iI x1))]) hx hb dX8_frequency_30 rfl hl (by decide) rfl (fun ls hl => ?_)
          refine lv_iload_n hx hb dX8_frequency_31 rfl (lv_at hl 0 rfl) ?_
          refine lv_sipush (v := iI 4800) hx hb dX8_frequency_32 (by decide) ?_
          refine zi_cle (tgt := 44) hx hb (by omega) (by decide) dX8_frequency_35 (by decide) (fun c_7 => ?_) (fun c_7 => ?_)
          · skip
            refine lv_iload_n hx hb dX8_frequency_44 rfl (lv_at hl 0 rfl) ?_
            refine lv_istore_n (lv' := [(2, .int (iI (a9 * (div c9)))), (3, .int (iI c9)), (0, .ref (q 0)), (1, .int (iI x1))]) hx hb dX8_frequency_45 rfl hl (by decide) rfl (fun ls hl => ?_)
            refine lv_aload_n hx hb dX8_frequency_46 rfl (lv_at hl 2 rfl) ?_
            refine va_get (D := (dC, dI)) (ci := 8) (v := .ref (q 5)) (C := RX8) (T := TX8) (N := 36) hx hb hts hinX8 hown hK.1 hP 0 rfl rfl 5 (by decide) (hts _ (List.mem_of_getElem? (i := 2) rfl)) (fun _ h9 => h9) rfl dX8_frequency_47 ?_
            refine lv_iload_n hx hb dX8_frequency_50 rfl (lv_at hl 1 rfl) ?_
            refine za_ld hx hb hK hP 5 0 rfl rfl (by omega) (by omega) dX8_frequency_51 ?_
            have e_8 := hpar c9 (by omega) (by omega)
            refine lv_istore_n (lv' := [(3, .int (iI (par c9))), (2, .int (iI (a9 * (div c9)))), (0, .ref (q 0)), (1, .int (iI x1))]) hx hb dX8_frequency_52 rfl hl (by decide) rfl (fun ls hl => ?_)
            refine lv_goto (tgt := 18) hx hb dX8_frequency_53 (by decide) ?_
            exact ih (par c9) (a9 * (div c9)) (f9 - 1) (by omega) (by first | omega | (have h8 := cp_r (x := a9 * div c9) (by omega); unfold cpF at h8; omega)) (by rw [hI, fq_s (by omega) hc9.2.2]; unfold cpF; first | (rw [if_pos (by omega)]; done) | (rw [if_neg (by omega)]; done)) (by omega) H locs hP hD hS ls (lv_sub hl [0, 1, 2, 3] rfl)
          · skip
            refine lv_sipush (v := iI 4801) hx hb dX8_frequency_38 (by decide) ?_
            refine lv_goto (tgt := 45) hx hb dX8_frequency_41 (by decide) ?_
            refine lv_istore_n (lv' := [(2, .int (iI 4801)), (3, .int (iI c9)), (0, .ref (q 0)), (1, .int (iI x1))]) hx hb dX8_frequency_45 rfl hl (by decide) rfl (fun ls hl => ?_)
            refine lv_aload_n hx hb dX8_frequency_46 rfl (lv_at hl 2 rfl) ?_
            refine va_get (D := (dC, dI)) (ci := 8) (v := .ref (q 5)) (C := RX8) (T := TX8) (N := 36) hx hb hts hinX8 hown hK.1 hP 0 rfl rfl 5 (by decide) (hts _ (List.mem_of_getElem? (i := 2) rfl)) (fun _ h9 => h9) rfl dX8_frequency_47 ?_
            refine lv_iload_n hx hb dX8_frequency_50 rfl (lv_at hl 1 rfl) ?_
            refine za_ld hx hb hK hP 5 0 rfl rfl (by omega) (by omega) dX8_frequency_51 ?_
            have e_9 := hpar c9 (by omega) (by omega)
            refine lv_istore_n (lv' := [(3, .int (iI (par c9))), (2, .int (iI 4801)), (0, .ref (q 0)), (1, .int (iI x1))]) hx hb dX8_frequency_52 rfl hl (by decide) rfl (fun ls hl => ?_)
            refine lv_goto (tgt := 18) hx hb dX8_frequency_53 (by decide) ?_
            exact ih (par c9) 4801 (f9 - 1) (by omega) (by first | omega | (have h8 := cp_r (x := a9 * div c9) (by omega); unfold cpF at h8; omega)) (by rw [hI, fq_s (by omega) hc9.2.2]; unfold cpF; first | (rw [if_pos (by omega)]; done) | (rw [if_neg (by omega)]; done)) (by omega) H locs hP hD hS ls (lv_sub hl [0, 1, 2, 3] rfl)
    exact L18 (_ + 1) x1 1 8 (by omega) (by omega) (rfl) (Nat.lt_succ_self _) H locs hP hD hS ls (lv_sub hl [0, 1, 2, 3] rfl)
  · skip
    refine lv_iconst (v := iI 0) hx hb dX8_frequency_12 rfl ?_
    subst hQ
    exact zret_i (W1 := fun u9 : Int × Int => wM cI cJ cZ q pw co la vo nC par div dee use mrun nT due lat wk nE tk ld rule now st asl idn idl sp pe tin slp late srv hv av bd sh mL mB (u9.2)) (0, 1 - (b2i (0 ≤ x1 ∧ x1 < nC))) hx hb hr hP hD hS hlocks dX8_frequency_13 (by first | (exact ⟨rfl, Or.inl (⟨by omega, by (first | rfl | (rw [b2i_t (by omega)]; done) | (rw [b2i_f (by omega)]; done) | (rw [b2i_t (by omega)]; rfl) | (rw [b2i_f (by omega)]; rfl)), by rw [hI, fq_0 (by omega)]⟩)⟩) | (exact ⟨rfl, Or.inr (⟨by omega, by (first | rfl | (rw [b2i_t (by omega)]; done) | (rw [b2i_f (by omega)]; done) | (rw [b2i_t (by omega)]; rfl) | (rw [b2i_f (by omega)]; rfl))⟩)⟩))
def rmX8_depth : Room := { frames := 2, cells := 0, slots := 0, locals := 43 }
set_option maxRecDepth 100000 in
set_option maxHeartbeats 4000000 in
theorem kX8_depth (l : Launch) (dC : Nat → ClassId) (dI : Nat → Nat → Nat) (cI cJ cZ : ClassId) (q : Nat → Nat)  (pw : Int → Int) (co : Int → Int) (la : Int → Int) (vo : Int → Int) (nC : Int) (par : Int → Int) (div : Int → Int) (dee : Int → Int) (use : Int → Int) (mrun : Int → Int) (nT : Int) (due : Int → Int) (lat : Int → Int) (wk : Int → Int) (nE : Int) (tk : Int → Int) (ld : Int → Int) (rule : Int) (now : Int) (st : Int) (asl : Int) (idn : Int) (idl : Int → Int) (sp : Int) (pe : Int) (tin : Int → Int) (slp : Int) (late : Int) (srv : Int) (hv : Int → Int) (av : Int) (bd : Int) (sh : Int) (mL : Int → Int) (mB : Int → Int) (thr : Int) (hnC : 1 ≤ nC ∧ nC ≤ 8) (hpar : ∀ c : Int, 1 ≤ c → c < nC → 0 ≤ par c ∧ par c < c) (huse : rgZ use 8 9) (hmrun : tfZ mrun) (hde : rgZ dee 8 3) (hvo : rgZ vo 6 3) : zMi l yX8_depth wsX8_depth rmX8_depth (dC, dI) (zT cI cJ cZ) (wM cI cJ cZ q pw co la vo nC par div dee use mrun nT due lat wk nE tk ld rule now st asl idn idl sp pe tin slp late srv hv av bd sh mL mB thr) [.ref (q 0)] (fun (r9 : Int) (_ : Unit) => r9 = dzM vo par dee use nC) (fun _ : Unit => wM cI cJ cZ q pw co la vo nC par div dee use (rnZ par (nC - 1) (r0Z use 8 mrun)) nT due lat wk nE tk ld rule now st asl idn idl sp pe tin slp late srv hv av bd sh mL mB 0) 0 0 := by
  refine zent_i (cc := cX8_depth) (maxL := 1) (ret := (some .int)) (by decide +kernel) rfl (Nat.le_of_ble_eq_true rfl) ?_
  intro p e s m below meth c A ls hE hP hK hA hD hS hl
  obtain ⟨hx, hb, hr, hml, hown, hts, hlocks, hmn⟩ := hE
  have hinX8 : ∀ w ∈ u_ws RX8 TX8 36, w ∈ wsX8_depth := by decide +kernel
  have hl : lv_has ls 1 [(0, .ref (q 0))] := hl
  refine z_gen (fun Q hQ => ?_)
  refine lv_aload_n hx hb dX8_depth_0 rfl (lv_at hl 0 rfl) ?_
  refine lv_iconst (v := iI 0) hx hb dX8_depth_1 rfl ?_
  refine va_put (D := (dC, dI)) (ci := 8) (v := .int (iI 0)) (ty := .int) (C := RX8) (T := TX8) (N := 36) hx hb hts hinX8 tyX8 tyX8_ok nmX8 hown hK.1 hP hD hS 0 rfl rfl 35 (by decide) (hts _ (List.mem_of_getElem? (i := 1) rfl)) (fun _ h9 => h9) rfl (by decide +kernel) rfl rfl (Nat.le_of_ble_eq_true rfl) dX8_depth_2 (fun H locs hP hD hS => ?_)
  have hP : va_P (dC, dI) vwCl (wM cI cJ cZ q pw co la vo nC par div dee use mrun nT due lat wk nE tk ld rule now st asl idn idl sp pe tin slp late srv hv av bd sh mL mB 0) H := hP
  have hD : va_D A (wM cI cJ cZ q pw co la vo nC par div dee use mrun nT due lat wk nE tk ld rule now st asl idn idl sp pe tin slp late srv hv av bd sh mL mB 0) := hD
  refine lv_aload_n hx hb dX8_depth_5 rfl (lv_at hl 0 rfl) ?_
  refine zc_i (va_runV (As := []) (rest := []) ⟨hx, hb, hml, hown, hts⟩ (kX8_deepestNow l dC dI cI cJ cZ q pw co la vo nC par div dee use mrun nT due lat wk nE tk ld rule now st asl idn idl sp pe tin slp late srv hv av bd sh mL mB 0 (by first | assumption | omega | exact b2i_01 _) (by first | assumption | omega | exact b2i_01 _) (by first | assumption | omega | exact b2i_01 _) (by first | assumption | omega | exact b2i_01 _) (by first | assumption | omega | exact b2i_01 _) (by first | assumption | omega | exact b2i_01 _) H.size) (cwV 0 hts gX8_depth_X8_deepestNow rfl rfl rfl (by decide +kernel) ⟨Nat.le_of_ble_eq_true rfl, Nat.le_of_ble_eq_true rfl⟩) (zpV hK hP hD [0, 1, 2, 3, 4, 5, 6, 7, 8, 9, 10, 11, 12, 13, 14, 15, 16, 17, 18, 19] rfl rfl 0 rfl rfl) rfl rfl hl.1 rfl (lv_room (Nat.le_of_ble_eq_true rfl)) dX8_depth_6 ⟨Nat.le_of_ble_eq_true rfl, Nat.le_of_ble_eq_true rfl⟩) hP hD hS hA [0, 1, 2, 3, 4, 5, 6, 7, 8, 9, 10, 11, 12, 13, 14, 15, 16, 17, 18, 19] [] rfl rfl rfl (by decide) (fun v_3 u_2 H locs r_1 hP hD hS => ?_)
  refine ze_i r_1 ?_
  have hP : va_P (dC, dI) vwCl (wM cI cJ cZ q pw co la vo nC par div dee use (rnZ par (nC - 1) (r0Z use 8 mrun)) nT due lat wk nE tk ld rule now st asl idn idl sp pe tin slp late srv hv av bd sh mL mB 0) H := hP
  have hD : va_D A (wM cI cJ cZ q pw co la vo nC par div dee use (rnZ par (nC - 1) (r0Z use 8 mrun)) nT due lat wk nE tk ld rule now st asl idn idl sp pe tin slp late srv hv av bd sh mL mB 0) := hD
  subst hQ
  exact zret_i (W1 := fun _ : Unit => wM cI cJ cZ q pw co la vo nC par div dee use (rnZ par (nC - 1) (r0Z use 8 mrun)) nT due lat wk nE tk ld rule now st asl idn idl sp pe tin slp late srv hv av bd sh mL mB 0) () hx hb hr hP hD hS hlocks dX8_depth_9 (by rfl)
def rmX8_breakEven : Room := { frames := 2, cells := 0, slots := 0, locals := 44 }
set_option maxRecDepth 100000 in
set_option maxHeartbeats 4000000 in
theorem kX8_breakEven (l : Launch) (dC : Nat → ClassId) (dI : Nat → Nat → Nat) (cI cJ cZ : ClassId) (q : Nat → Nat)  (pw : Int → Int) (co : Int → Int) (la : Int → Int) (vo : Int → Int) (nC : Int) (par : Int → Int) (div : Int → Int) (dee : Int → Int) (use : Int → Int) (mrun : Int → Int) (nT : Int) (due : Int → Int) (lat : Int → Int) (wk : Int → Int) (nE : Int) (tk : Int → Int) (ld : Int → Int) (rule : Int) (now : Int) (st : Int) (asl : Int) (idn : Int) (idl : Int → Int) (sp : Int) (pe : Int) (tin : Int → Int) (slp : Int) (late : Int) (srv : Int) (hv : Int → Int) (av : Int) (bd : Int) (sh : Int) (mL : Int → Int) (mB : Int → Int) (thr : Int) (x1 : Int) (hx1 : zR x1) (hpw : rgZ pw 4 1000) (hco : rgZ co 4 10000) (hla : rgZ la 4 100) : zMi l yX8_breakEven wsX8_breakEven rmX8_breakEven (dC, dI) (zT cI cJ cZ) (wM cI cJ cZ q pw co la vo nC par div dee use mrun nT due lat wk nE tk ld rule now st asl idn idl sp pe tin slp late srv hv av bd sh mL mB thr) [.ref (q 0), .int (iI x1)] (fun (r9 : Int) (u9 : Int × Int) => r9 = (u9.1) ∧ (((1 ≤ x1 ∧ x1 ≤ 3) ∧ (u9.2) = 0 ∧ (u9.1) = evA pw co la x1) ∨ (¬ (1 ≤ x1 ∧ x1 ≤ 3) ∧ (u9.2) = 1))) (fun u9 : Int × Int => wM cI cJ cZ q pw co la vo nC par div dee use mrun nT due lat wk nE tk ld rule now st asl idn idl sp pe tin slp late srv hv av bd sh mL mB (u9.2)) 0 0 := by
  refine zent_i (cc := cX8_breakEven) (maxL := 2) (ret := (some .int)) (by decide +kernel) rfl (Nat.le_of_ble_eq_true rfl) ?_
  intro p e s m below meth c A ls hE hP hK hA hD hS hl
  obtain ⟨hx, hb, hr, hml, hown, hts, hlocks, hmn⟩ := hE
  have hinX8 : ∀ w ∈ u_ws RX8 TX8 36, w ∈ wsX8_breakEven := by decide +kernel
  have hl : lv_has ls 2 [(0, .ref (q 0)), (1, .int (iI x1))] := hl
  refine z_gen (fun Q hQ => ?_)
  refine lv_aload_n hx hb dX8_breakEven_0 rfl (lv_at hl 0 rfl) ?_
  refine lv_iload_n hx hb dX8_breakEven_1 rfl (lv_at hl 1 rfl) ?_
  refine lv_iconst (v := iI 1) hx hb dX8_breakEven_2 rfl ?_
  refine lv_iconst (v := iI 3) hx hb dX8_breakEven_3 rfl ?_
  refine zc_pi (va_runS (As := [.int (iI x1), .int (iI 1), .int (iI 3)]) (rest := [.ref (q 0)]) ⟨hx, hb, hml, hown, hts⟩ (kX8_in l dC dI cI cJ cZ x1 1 3 (by first | assumption | omega | exact b2i_01 _) (by first | assumption | omega | exact b2i_01 _) (by first | assumption | omega | exact b2i_01 _)) (va_cwS 3 hts gX8_breakEven_X8_in rfl rfl rfl (by decide +kernel) ⟨Nat.le_of_ble_eq_true rfl, Nat.le_of_ble_eq_true rfl⟩) (zqS hK hP [] rfl) rfl rfl hl.1 rfl (lv_room (Nat.le_of_ble_eq_true rfl)) dX8_breakEven_4 ⟨Nat.le_of_ble_eq_true rfl, Nat.le_of_ble_eq_true rfl⟩) ?_
  refine zc_i (va_runV (As := [.int (iI (b2i (1 ≤ x1 ∧ x1 ≤ 3)))]) (rest := []) ⟨hx, hb, hml, hown, hts⟩ (kX8_asks l dC dI cI cJ cZ q pw co la vo nC par div dee use mrun nT due lat wk nE tk ld rule now st asl idn idl sp pe tin slp late srv hv av bd sh mL mB thr (b2i (1 ≤ x1 ∧ x1 ≤ 3)) (by first | assumption | omega | exact b2i_01 _) s.heap.size) (cwV 1 hts gX8_breakEven_X8_asks rfl rfl rfl (by decide +kernel) ⟨Nat.le_of_ble_eq_true rfl, Nat.le_of_ble_eq_true rfl⟩) (zpV hK hP hD [0, 1, 2, 3, 4, 5, 6, 7, 8, 9, 10, 11, 12, 13, 14, 15, 16, 17, 18, 19] rfl rfl 0 rfl rfl) rfl rfl hl.1 rfl (lv_room (Nat.le_of_ble_eq_true rfl)) dX8_breakEven_7 ⟨Nat.le_of_ble_eq_true rfl, Nat.le_of_ble_eq_true rfl⟩) hP hD hS hA [0, 1, 2, 3, 4, 5, 6, 7, 8, 9, 10, 11, 12, 13, 14, 15, 16, 17, 18, 19] [] rfl rfl rfl (by decide) (fun v_3 u_2 H locs r_1 hP hD hS => ?_)
  refine ze_i r_1 ?_
  have hP : va_P (dC, dI) vwCl (wM cI cJ cZ q pw co la vo nC par div dee use mrun nT due lat wk nE tk ld rule now st asl idn idl sp pe tin slp late srv hv av bd sh mL mB (1 - (b2i (1 ≤ x1 ∧ x1 ≤ 3)))) H := hP
  have hD : va_D A (wM cI cJ cZ q pw co la vo nC par div dee use mrun nT due lat wk nE tk ld rule now st asl idn idl sp pe tin slp late srv hv av bd sh mL mB (1 - (b2i (1 ≤ x1 ∧ x1 ≤ 3)))) := hD
  refine zb_feq (tgt := 21) hx hb dX8_breakEven_10 (by decide) (fun c_4 => ?_) (fun c_4 => ?_)
  · skip
    refine lv_iconst (v := iI 0) hx hb dX8_breakEven_21 rfl ?_
    subst hQ
    exact zret_i (W1 := fun u9 : Int × Int => wM cI cJ cZ q pw co la vo nC par div dee use mrun nT due lat wk nE tk ld rule now st asl idn idl sp pe tin slp late srv hv av bd sh mL mB (u9.2)) (0, 1 - (b2i (1 ≤ x1 ∧ x1 ≤ 3))) hx hb hr hP hD hS hlocks dX8_breakEven_22 (by first | (exact ⟨rfl, Or.inl (⟨by omega, by (first | rfl | (rw [b2i_t (by omega)]; done) | (rw [b2i_f (by omega)]; done) | (rw [b2i_t (by omega)]; rfl) | (rw [b2i_f (by omega)]; rfl)), by first | rfl | omega⟩)⟩) | (exact ⟨rfl, Or.inr (⟨by omega, by (first | rfl | (rw [b2i_t (by omega)]; done) | (rw [b2i_f (by omega)]; done) | (rw [b2i_t (by omega)]; rfl) | (rw [b2i_f (by omega)]; rfl))⟩)⟩))
  · skip
    refine lv_aload_n hx hb dX8_breakEven_13 rfl (lv_at hl 0 rfl) ?_
    refine lv_iload_n hx hb dX8_breakEven_14 rfl (lv_at hl 1 rfl) ?_
    refine zc_pi (va_runV (As := [.int (iI x1)]) (rest := []) ⟨hx, hb, hml, hown, hts⟩ (kX8_evenAt l dC dI cI cJ cZ q pw co la vo nC par div dee use mrun nT due lat wk nE tk ld rule now st asl idn idl sp pe tin slp late srv hv av bd sh mL mB (1 - (b2i (1 ≤ x1 ∧ x1 ≤ 3))) x1 (by first | assumption | omega | exact b2i_01 _) (by first | assumption | omega | exact b2i_01 _) (by first | assumption | omega | exact b2i_01 _) (by first | assumption | omega | exact b2i_01 _)) (cwV 1 hts gX8_breakEven_X8_evenAt rfl rfl rfl (by decide +kernel) ⟨Nat.le_of_ble_eq_true rfl, Nat.le_of_ble_eq_true rfl⟩) (zqV hK hP [0, 1, 2, 3, 4, 5, 6, 7, 8, 9, 10, 11, 12, 13, 14, 15, 16, 17, 18, 19] rfl 0 rfl rfl) rfl rfl hl.1 rfl (lv_room (Nat.le_of_ble_eq_true rfl)) dX8_breakEven_15 ⟨Nat.le_of_ble_eq_true rfl, Nat.le_of_ble_eq_true rfl⟩) ?_
    refine lv_goto (tgt := 22) hx hb dX8_breakEven_18 (by decide) ?_
    subst hQ
    exact zret_i (W1 := fun u9 : Int × Int => wM cI cJ cZ q pw co la vo nC par div dee use mrun nT due lat wk nE tk ld rule now st asl idn idl sp pe tin slp late srv hv av bd sh mL mB (u9.2)) (evA pw co la x1, 1 - (b2i (1 ≤ x1 ∧ x1 ≤ 3))) hx hb hr hP hD hS hlocks dX8_breakEven_22 (by first | (exact ⟨rfl, Or.inl (⟨by omega, by (first | rfl | (rw [b2i_t (by omega)]; done) | (rw [b2i_f (by omega)]; done) | (rw [b2i_t (by omega)]; rfl) | (rw [b2i_f (by omega)]; rfl)), by first | rfl | omega⟩)⟩) | (exact ⟨rfl, Or.inr (⟨by omega, by (first | rfl | (rw [b2i_t (by omega)]; done) | (rw [b2i_f (by omega)]; done) | (rw [b2i_t (by omega)]; rfl) | (rw [b2i_f (by omega)]; rfl))⟩)⟩))
def rmX8_schedule : Room := { frames := 2, cells := 0, slots := 0, locals := 42 }
set_option maxRecDepth 100000 in
set_option maxHeartbeats 4000000 in
theorem kX8_schedule (l : Launch) (dC : Nat → ClassId) (dI : Nat → Nat → Nat) (cI cJ cZ : ClassId) (q : Nat → Nat)  (pw : Int → Int) (co : Int → Int) (la : Int → Int) (vo : Int → Int) (nC : Int) (par : Int → Int) (div : Int → Int) (dee : Int → Int) (use : Int → Int) (mrun : Int → Int) (nT : Int) (due : Int → Int) (lat : Int → Int) (wk : Int → Int) (nE : Int) (tk : Int → Int) (ld : Int → Int) (rule : Int) (now : Int) (st : Int) (asl : Int) (idn : Int) (idl : Int → Int) (sp : Int) (pe : Int) (tin : Int → Int) (slp : Int) (late : Int) (srv : Int) (hv : Int → Int) (av : Int) (bd : Int) (sh : Int) (mL : Int → Int) (mB : Int → Int) (thr : Int) (x1 x2 x3 : Int) (hx1 : zR x1) (hx2 : zR x2) (hx3 : zR x3) (hst : 0 ≤ st ∧ st ≤ 3) (hpw : rgZ pw 4 1000) (hco : rgZ co 4 10000) (hla : rgZ la 4 100) (hidn : 0 ≤ idn ∧ idn ≤ 2000000) (hidl : rgZ idl 4 1000000) (hnT : 0 ≤ nT ∧ nT ≤ 12) (hnow : 0 ≤ now ∧ now ≤ 200000) : zMi l yX8_schedule wsX8_schedule rmX8_schedule (dC, dI) (zT cI cJ cZ) (wM cI cJ cZ q pw co la vo nC par div dee use mrun nT due lat wk nE tk ld rule now st asl idn idl sp pe tin slp late srv hv av bd sh mL mB thr) [.ref (q 0), .int (iI x1), .int (iI x2), .int (iI x3)] (fun (r9 : Int) (u9 : Int × Int × Int × Int × Int × (Int → Int) × Int × (Int → Int) × (Int → Int) × (Int → Int) × Int) => r9 = (u9.1) ∧ ((((now ≤ x1 ∧ x1 ≤ now + 1000) ∧ (0 ≤ x2 ∧ x2 ≤ 500) ∧ (1 ≤ x3 ∧ x3 ≤ 50)) ∧ (nT < 12) ∧ (u9.2.1) = 0 ∧ (u9.1) = nT + 1 ∧ ((u9.2.2.1), (u9.2.2.2.1), (u9.2.2.2.2.1), (u9.2.2.2.2.2.1), (u9.2.2.2.2.2.2.1)) = scF pw la st asl now sp pe idl idn ∧ (u9.2.2.2.2.2.2.2.1) = uZ due nT x1 ∧ (u9.2.2.2.2.2.2.2.2.1) = uZ lat nT (x1 + x2) ∧ (u9.2.2.2.2.2.2.2.2.2.1) = uZ wk nT x3 ∧ (u9.2.2.2.2.2.2.2.2.2.2) = nT + 1) ∨ (¬ ((now ≤ x1 ∧ x1 ≤ now + 1000) ∧ (0 ≤ x2 ∧ x2 ≤ 500) ∧ (1 ≤ x3 ∧ x3 ≤ 50)) ∧ (u9.2.1) = 1 ∧ (u9.2.2.1) = st ∧ (u9.2.2.2.1) = sp ∧ (u9.2.2.2.2.1) = pe ∧ (u9.2.2.2.2.2.1) = idl ∧ (u9.2.2.2.2.2.2.1) = idn ∧ (u9.2.2.2.2.2.2.2.1) = due ∧ (u9.2.2.2.2.2.2.2.2.1) = lat ∧ (u9.2.2.2.2.2.2.2.2.2.1) = wk ∧ (u9.2.2.2.2.2.2.2.2.2.2) = nT) ∨ (((now ≤ x1 ∧ x1 ≤ now + 1000) ∧ (0 ≤ x2 ∧ x2 ≤ 500) ∧ (1 ≤ x3 ∧ x3 ≤ 50)) ∧ ¬ (nT < 12) ∧ (u9.2.1) = 2 ∧ (u9.2.2.1) = st ∧ (u9.2.2.2.1) = sp ∧ (u9.2.2.2.2.1) = pe ∧ (u9.2.2.2.2.2.1) = idl ∧ (u9.2.2.2.2.2.2.1) = idn ∧ (u9.2.2.2.2.2.2.2.1) = due ∧ (u9.2.2.2.2.2.2.2.2.1) = lat ∧ (u9.2.2.2.2.2.2.2.2.2.1) = wk ∧ (u9.2.2.2.2.2.2.2.2.2.2) = nT))) (fun u9 : Int × Int × Int × Int × Int × (Int → Int) × Int × (Int → Int) × (Int → Int) × (Int → Int) × Int => wM cI cJ cZ q pw co la vo nC par div dee use mrun (u9.2.2.2.2.2.2.2.2.2.2) (u9.2.2.2.2.2.2.2.1) (u9.2.2.2.2.2.2.2.2.1) (u9.2.2.2.2.2.2.2.2.2.1) nE tk ld rule now (u9.2.2.1) asl (u9.2.2.2.2.2.2.1) (u9.2.2.2.2.2.1) (u9.2.2.2.1) (u9.2.2.2.2.1) tin slp late srv hv av bd sh mL mB (u9.2.1)) 0 0 := by
  refine zent_i (cc := cX8_schedule) (maxL := 4) (ret := (some .int)) (by decide +kernel) rfl (Nat.le_of_ble_eq_true rfl) ?_
  intro p e s m below meth c A ls hE hP hK hA hD hS hl
  obtain ⟨hx, hb, hr, hml, hown, hts, hlocks, hmn⟩ := hE
  have hinX8 : ∀ w ∈ u_ws RX8 TX8 36, w ∈ wsX8_schedule := by decide +kernel
  have hl : lv_has ls 4 [(0, .ref (q 0)), (1, .int (iI x1)), (2, .int (iI x2)), (3, .int (iI x3))] := hl
  refine z_gen (fun Q hQ => ?_)
  refine lv_aload_n hx hb dX8_schedule_0 rfl (lv_at hl 0 rfl) ?_
  refine lv_iload_n hx hb dX8_schedule_1 rfl (lv_at hl 1 rfl) ?_
  refine lv_aload_n hx hb dX8_schedule_2 rfl (lv_at hl 0 rfl) ?_
  refine va_get (D := (dC, dI)) (ci := 8) (v := .int (iI now)) (C := RX8) (T := TX8) (N := 36) hx hb hts hinX8 hown hK.1 hP 0 rfl rfl 18 (by decide) (hts _ (List.mem_of_getElem? (i := 1) rfl)) (fun _ h9 => h9) rfl dX8_schedule_3 ?_
  refine lv_aload_n hx hb dX8_schedule_6 rfl (lv_at hl 0 rfl) ?_
  refine va_get (D := (dC, dI)) (ci := 8) (v := .int (iI now)) (C := RX8) (T := TX8) (N := 36) hx hb hts hinX8 hown hK.1 hP 0 rfl rfl 18 (by decide) (hts _ (List.mem_of_getElem? (i := 1) rfl)) (fun _ h9 => h9) rfl dX8_schedule_7 ?_
  refine lv_sipush (v := iI 1000) hx hb dX8_schedule_10 (by decide) ?_
  refine zi_add hx hb dX8_schedule_13 ?_
  refine zc_pi (va_runS (As := [.int (iI x1), .int (iI now), .int (iI (now + 1000))]) (rest := [.ref (q 0)]) ⟨hx, hb, hml, hown, hts⟩ (kX8_in l dC dI cI cJ cZ x1 now (now + 1000) (by first | assumption | omega | exact b2i_01 _) (by first | assumption | omega | exact b2i_01 _) (by first | assumption | omega | exact b2i_01 _)) (va_cwS 3 hts gX8_schedule_X8_in rfl rfl rfl (by decide +kernel) ⟨Nat.le_of_ble_eq_true rfl, Nat.le_of_ble_eq_true rfl⟩) (zqS hK hP [] rfl) rfl rfl hl.1 rfl (lv_room (Nat.le_of_ble_eq_true rfl)) dX8_schedule_14 ⟨Nat.le_of_ble_eq_true rfl, Nat.le_of_ble_eq_true rfl⟩) ?_
  refine zb_feq (tgt := 45) hx hb dX8_schedule_17 (by decide) (fun c_1 => ?_) (fun c_1 => ?_)
  · skip
    refine lv_iconst (v := iI 0) hx hb dX8_schedule_45 rfl ?_
    refine zc_i (va_runV (As := [.int (iI 0)]) (rest := []) ⟨hx, hb, hml, hown, hts⟩ (kX8_asks l dC dI cI cJ cZ q pw co la vo nC par div dee use mrun nT due lat wk nE tk ld rule now st asl idn idl sp pe tin slp late srv hv av bd sh mL mB thr 0 (by first | assumption | omega | exact b2i_01 _) s.heap.size) (cwV 1 hts gX8_schedule_X8_asks rfl rfl rfl (by decide +kernel) ⟨Nat.le_of_ble_eq_true rfl, Nat.le_of_ble_eq_true rfl⟩) (zpV hK hP hD [0, 1, 2, 3, 4, 5, 6, 7, 8, 9, 10, 11, 12, 13, 14, 15, 16, 17, 18, 19] rfl rfl 0 rfl rfl) rfl rfl hl.1 rfl (lv_room (Nat.le_of_ble_eq_true rfl)) dX8_schedule_46 ⟨Nat.le_of_ble_eq_true rfl, Nat.le_of_ble_eq_true rfl⟩) hP hD hS hA [0, 1, 2, 3, 4, 5, 6, 7, 8, 9, 10, 11, 12, 13, 14, 15, 16, 17, 18, 19] [] rfl rfl rfl (by decide) (fun v_4 u_3 H locs r_2 hP hD hS => ?_)
    refine ze_i r_2 ?_
    have hP : va_P (dC, dI) vwCl (wM cI cJ cZ q pw co la vo nC par div dee use mrun nT due lat wk nE tk ld rule now st asl idn idl sp pe tin slp late srv hv av bd sh mL mB (1 - 0)) H := hP
    have hD : va_D A (wM cI cJ cZ q pw co la vo nC par div dee use mrun nT due lat wk nE tk ld rule now st asl idn idl sp pe tin slp late srv hv av bd sh mL mB (1 - 0)) := hD
    refine zi_fne (tgt := 54) hx hb (by decide) dX8_schedule_49 (by decide) (fun c_5 => ?_) (fun c_5 => ?_)
    · skip
      exact absurd c_5 (by decide)
    · skip
      refine lv_iconst (v := iI 0) hx hb dX8_schedule_52 rfl ?_
      subst hQ
      exact zret_i (W1 := fun u9 : Int × Int × Int × Int × Int × (Int → Int) × Int × (Int → Int) × (Int → Int) × (Int → Int) × Int => wM cI cJ cZ q pw co la vo nC par div dee use mrun (u9.2.2.2.2.2.2.2.2.2.2) (u9.2.2.2.2.2.2.2.1) (u9.2.2.2.2.2.2.2.2.1) (u9.2.2.2.2.2.2.2.2.2.1) nE tk ld rule now (u9.2.2.1) asl (u9.2.2.2.2.2.2.1) (u9.2.2.2.2.2.1) (u9.2.2.2.1) (u9.2.2.2.2.1) tin slp late srv hv av bd sh mL mB (u9.2.1)) (0, 1 - 0, st, sp, pe, idl, idn, due, lat, wk, nT) hx hb hr hP hD hS hlocks dX8_schedule_53 (by first | (exact ⟨rfl, Or.inl (⟨by omega, by omega, by (first | rfl | (rw [b2i_t (by omega)]; done) | (rw [b2i_f (by omega)]; done) | (rw [b2i_t (by omega)]; rfl) | (rw [b2i_f (by omega)]; rfl)), by first | rfl | omega, by exact hsc9, by rfl, by rfl, by rfl, by rfl⟩)⟩) | (exact ⟨rfl, Or.inr (Or.inl (⟨by omega, by (first | rfl | (rw [b2i_t (by omega)]; done) | (rw [b2i_f (by omega)]; done) | (rw [b2i_t (by omega)]; rfl) | (rw [b2i_f (by omega)]; rfl)), rfl, rfl, rfl, rfl, rfl, rfl, rfl, rfl, rfl⟩))⟩) | (exact ⟨rfl, Or.inr (Or.inr (⟨by omega, by omega, by (first | rfl | (rw [b2i_t (by omega)]; done) | (rw [b2i_f (by omega)]; done) | (rw [b2i_t (by omega)]; rfl) | (rw [b2i_f (by omega)]; rfl)), rfl, rfl, rfl, rfl, rfl, rfl, rfl, rfl, rfl⟩))⟩))
  · skip
    refine lv_iload_n hx hb dX8_schedule_20 rfl (lv_at hl 2 rfl) ?_
    refine lv_iconst (v := iI 0) hx hb dX8_schedule_21 rfl ?_
    refine lv_sipush (v := iI 500) hx hb dX8_schedule_22 (by decide) ?_
    refine zc_pi (va_runS (As := [.int (iI x2), .int (iI 0), .int (iI 500)]) (rest := [.ref (q 0)]) ⟨hx, hb, hml, hown, hts⟩ (kX8_in l dC dI cI cJ cZ x2 0 500 (by first | assumption | omega | exact b2i_01 _) (by first | assumption | omega | exact b2i_01 _) (by first | assumption | omega | exact b2i_01 _)) (va_cwS 3 hts gX8_schedule_X8_in rfl rfl rfl (by decide +kernel) ⟨Nat.le_of_ble_eq_true rfl, Nat.le_of_ble_eq_true rfl⟩) (zqS hK hP [] rfl) rfl rfl hl.1 rfl (lv_room (Nat.le_of_ble_eq_true rfl)) dX8_schedule_25 ⟨Nat.le_of_ble_eq_true rfl, Nat.le_of_ble_eq_true rfl⟩) ?_
    refine zb_feq (tgt := 45) hx hb dX8_schedule_28 (by decide) (fun c_6 => ?_) (fun c_6 => ?_)
    · skip
      refine lv_iconst (v := iI 0) hx hb dX8_schedule_45 rfl ?_
      refine zc_i (va_runV (As := [.int (iI 0)]) (rest := []) ⟨hx, hb, hml, hown, hts⟩ (kX8_asks l dC dI cI cJ cZ q pw co la vo nC par div dee use mrun nT due lat wk nE tk ld rule now st asl idn idl sp pe tin slp late srv hv av bd sh mL mB thr 0 (by first | assumption | omega | exact b2i_01 _) s.heap.size) (cwV 1 hts gX8_schedule_X8_asks rfl rfl rfl (by decide +kernel) ⟨Nat.le_of_ble_eq_true rfl, Nat.le_of_ble_eq_true rfl⟩) (zpV hK hP hD [0, 1, 2, 3, 4, 5, 6, 7, 8, 9, 10, 11, 12, 13, 14, 15, 16, 17, 18, 19] rfl rfl 0 rfl rfl) rfl rfl hl.1 rfl (lv_room (Nat.le_of_ble_eq_true rfl)) dX8_schedule_46 ⟨Nat.le_of_ble_eq_true rfl, Nat.le_of_ble_eq_true rfl⟩) hP hD hS hA [0, 1, 2, 3, 4, 5, 6, 7, 8, 9, 10, 11, 12, 13, 14, 15, 16, 17, 18, 19] [] rfl rfl rfl (by decide) (fun v_9 u_8 H locs r_7 hP hD hS => ?_)
      refine ze_i r_7 ?_
      have hP : va_P (dC, dI) vwCl (wM cI cJ cZ q pw co la vo nC par div dee use mrun nT due lat wk nE tk ld rule now st asl idn idl sp pe tin slp late srv hv av bd sh mL mB (1 - 0)) H := hP
      have hD : va_D A (wM cI cJ cZ q pw co la vo nC par div dee use mrun nT due lat wk nE tk ld rule now st asl idn idl sp pe tin slp late srv hv av bd sh mL mB (1 - 0)) := hD
      refine zi_fne (tgt := 54) hx hb (by decide) dX8_schedule_49 (by decide) (fun c_10 => ?_) (fun c_10 => ?_)
      · skip
        exact absurd c_10 (by decide)
      · skip
        refine lv_iconst (v := iI 0) hx hb dX8_schedule_52 rfl ?_
        subst hQ
        exact zret_i (W1 := fun u9 : Int × Int × Int × Int × Int × (Int → Int) × Int × (Int → Int) × (Int → Int) × (Int → Int) × Int => wM cI cJ cZ q pw co la vo nC par div dee use mrun (u9.2.2.2.2.2.2.2.2.2.2) (u9.2.2.2.2.2.2.2.1) (u9.2.2.2.2.2.2.2.2.1) (u9.2.2.2.2.2.2.2.2.2.1) nE tk ld rule now (u9.2.2.1) asl (u9.2.2.2.2.2.2.1) (u9.2.2.2.2.2.1) (u9.2.2.2.1) (u9.2.2.2.2.1) tin slp late srv hv av bd sh mL mB (u9.2.1)) (0, 1 - 0, st, sp, pe, idl, idn, due, lat, wk, nT) hx hb hr hP hD hS hlocks dX8_schedule_53 (by first | (exact ⟨rfl, Or.inl (⟨by omega, by omega, by (first | rfl | (rw [b2i_t (by omega)]; done) | (rw [b2i_f (by omega)]; done) | (rw [b2i_t (by omega)]; rfl) | (rw [b2i_f (by omega)]; rfl)), by first | rfl | omega, by exact hsc9, by rfl, by rfl, by rfl, by rfl⟩)⟩) | (exact ⟨rfl, Or.inr (Or.inl (⟨by omega, by (first | rfl | (rw [b2i_t (by omega)]; done) | (rw [b2i_f (by omega)]; done) | (rw [b2i_t (by omega)]; rfl) | (rw [b2i_f (by omega)]; rfl)), rfl, rfl, rfl, rfl, rfl, rfl, rfl, rfl, rfl⟩))⟩) | (exact ⟨rfl, Or.inr (Or.inr (⟨by omega, by omega, by (first | rfl | (rw [b2i_t (by omega)]; done) | (rw [b2i_f (by omega)]; done) | (rw [b2i_t (by omega)]; rfl) | (rw [b2i_f (by omega)]; rfl)), rfl, rfl, rfl, rfl, rfl, rfl, rfl, rfl, rfl⟩))⟩))
    · skip
      refine lv_iload_n hx hb dX8_schedule_31 rfl (lv_at hl 3 rfl) ?_
      refine lv_iconst (v := iI 1) hx hb dX8_schedule_32 rfl ?_
      refine lv_bipush (v := iI 50) hx hb dX8_schedule_33 (by decide) ?_
      refine zc_pi (va_runS (As := [.int (iI x3), .int (iI 1), .int (iI 50)]) (rest := [.ref (q 0)]) ⟨hx, hb, hml, hown, hts⟩ (kX8_in l dC dI cI cJ cZ x3 1 50 (by first | assumption | omega | exact b2i_01 _) (by first | assumption | omega | exact b2i_01 _) (by first | assumption | omega | exact b2i_01 _)) (va_cwS 3 hts gX8_schedule_X8_in rfl rfl rfl (by decide +kernel) ⟨Nat.le_of_ble_eq_true rfl, Nat.le_of_ble_eq_true rfl⟩) (zqS hK hP [] rfl) rfl rfl hl.1 rfl (lv_room (Nat.le_of_ble_eq_true rfl)) dX8_schedule_35 ⟨Nat.le_of_ble_eq_true rfl, Nat.le_of_ble_eq_true rfl⟩) ?_
      refine zb_feq (tgt := 45) hx hb dX8_schedule_38 (by decide) (fun c_11 => ?_) (fun c_11 => ?_)
      · skip
        refine lv_iconst (v := iI 0) hx hb dX8_schedule_45 rfl ?_
        refine zc_i (va_runV (As := [.int (iI 0)]) (rest := []) ⟨hx, hb, hml, hown, hts⟩ (kX8_asks l dC dI cI cJ cZ q pw co la vo nC par div dee use mrun nT due lat wk nE tk ld rule now st asl idn idl sp pe tin slp late srv hv av bd sh mL mB thr 0 (by first | assumption | omega | exact b2i_01 _) s.heap.size) (cwV 1 hts gX8_schedule_X8_asks rfl rfl rfl (by decide +kernel) ⟨Nat.le_of_ble_eq_true rfl, Nat.le_of_ble_eq_true rfl⟩) (zpV hK hP hD [0, 1, 2, 3, 4, 5, 6, 7, 8, 9, 10, 11, 12, 13, 14, 15, 16, 17, 18, 19] rfl rfl 0 rfl rfl) rfl rfl hl.1 rfl (lv_room (Nat.le_of_ble_eq_true rfl)) dX8_schedule_46 ⟨Nat.le_of_ble_eq_true rfl, Nat.le_of_ble_eq_true rfl⟩) hP hD hS hA [0, 1, 2, 3, 4, 5, 6, 7, 8, 9, 10, 11, 12, 13, 14, 15, 16, 17, 18, 19] [] rfl rfl rfl (by decide) (fun v_14 u_13 H locs r_12 hP hD hS => ?_)
        refine ze_i r_12 ?_
        have hP : va_P (dC, dI) vwCl (wM cI cJ cZ q pw co la vo nC par div dee use mrun nT due lat wk nE tk ld rule now st asl idn idl sp pe tin slp late srv hv av bd sh mL mB (1 - 0)) H := hP
        have hD : va_D A (wM cI cJ cZ q pw co la vo nC par div dee use mrun nT due lat wk nE tk ld rule now st asl idn idl sp pe tin slp late srv hv av bd sh mL mB (1 - 0)) := hD
        refine zi_fne (tgt := 54) hx hb (by decide) dX8_schedule_49 (by decide) (fun c_15 => ?_) (fun c_15 => ?_)
        · skip
          exact absurd c_15 (by decide)
        · skip
          refine lv_iconst (v := iI 0) hx hb dX8_schedule_52 rfl ?_
          subst hQ
          exact zret_i (W1 := fun u9 : Int × Int × Int × Int × Int × (Int → Int) × Int × (Int → Int) × (Int → Int) × (Int → Int) × Int => wM cI cJ cZ q pw co la vo nC par div dee use mrun (u9.2.2.2.2.2.2.2.2.2.2) (u9.2.2.2.2.2.2.2.1) (u9.2.2.2.2.2.2.2.2.1) (u9.2.2.2.2.2.2.2.2.2.1) nE tk ld rule now (u9.2.2.1) asl (u9.2.2.2.2.2.2.1) (u9.2.2.2.2.2.1) (u9.2.2.2.1) (u9.2.2.2.2.1) tin slp late srv hv av bd sh mL mB (u9.2.1)) (0, 1 - 0, st, sp, pe, idl, idn, due, lat, wk, nT) hx hb hr hP hD hS hlocks dX8_schedule_53 (by first | (exact ⟨rfl, Or.inl (⟨by omega, by omega, by (first | rfl | (rw [b2i_t (by omega)]; done) | (rw [b2i_f (by omega)]; done) | (rw [b2i_t (by omega)]; rfl) | (rw [b2i_f (by omega)]; rfl)), by first | rfl | omega, by exact hsc9, by rfl, by rfl, by rfl, by rfl⟩)⟩) | (exact ⟨rfl, Or.inr (Or.inl (⟨by omega, by (first | rfl | (rw [b2i_t (by omega)]; done) | (rw [b2i_f (by omega)]; done) | (rw [b2i_t (by omega)]; rfl) | (rw [b2i_f (by omega)]; rfl)), rfl, rfl, rfl, rfl, rfl, rfl, rfl, rfl, rfl⟩))⟩) | (exact ⟨rfl, Or.inr (Or.inr (⟨by omega, by omega, by (first | rfl | (rw [b2i_t (by omega)]; done) | (rw [b2i_f (by omega)]; done) | (rw [b2i_t (by omega)]; rfl) | (rw [b2i_f (by omega)]; rfl)), rfl, rfl, rfl, rfl, rfl, rfl, rfl, rfl, rfl⟩))⟩))
      · skip
        refine lv_iconst (v := iI 1) hx hb dX8_schedule_41 rfl ?_
        refine lv_goto (tgt := 46) hx hb dX8_schedule_42 (by decide) ?_
        refine zc_i (va_runV (As := [.int (iI 1)]) (rest := []) ⟨hx, hb, hml, hown, hts⟩ (kX8_asks l dC dI cI cJ cZ q pw co la vo nC par div dee use mrun nT due lat wk nE tk ld rule now st asl idn idl sp pe tin slp late srv hv av bd sh mL mB thr 1 (by first | assumption | omega | exact b2i_01 _) s.heap.size) (cwV 1 hts gX8_schedule_X8_asks rfl rfl rfl (by decide +kernel) ⟨Nat.le_of_ble_eq_true rfl, Nat.le_of_ble_eq_true rfl⟩) (zpV hK hP hD [0, 1, 2, 3, 4, 5, 6, 7, 8, 9, 10, 11, 12, 13, 14, 15, 16, 17, 18, 19] rfl rfl 0 rfl rfl) rfl rfl hl.1 rfl (lv_room (Nat.le_of_ble_eq_true rfl)) dX8_schedule_46 ⟨Nat.le_of_ble_eq_true rfl, Nat.le_of_ble_eq_true rfl⟩) hP hD hS hA [0, 1, 2, 3, 4, 5, 6, 7, 8, 9, 10, 11, 12, 13, 14, 15, 16, 17, 18, 19] [] rfl rfl rfl (by decide) (fun v_18 u_17 H locs r_16 hP hD hS => ?_)
        refine ze_i r_16 ?_
        have hP : va_P (dC, dI) vwCl (wM cI cJ cZ q pw co la vo nC par div dee use mrun nT due lat wk nE tk ld rule now st asl idn idl sp pe tin slp late srv hv av bd sh mL mB (1 - 1)) H := hP
        have hD : va_D A (wM cI cJ cZ q pw co la vo nC par div dee use mrun nT due lat wk nE tk ld rule now st asl idn idl sp pe tin slp late srv hv av bd sh mL mB (1 - 1)) := hD
        refine zi_fne (tgt := 54) hx hb (by decide) dX8_schedule_49 (by decide) (fun c_19 => ?_) (fun c_19 => ?_)
        · skip
          refine lv_aload_n hx hb dX8_schedule_54 rfl (lv_at hl 0 rfl) ?_
          refine va_get (D := (dC, dI)) (ci := 8) (v := .int (iI nT)) (C := RX8) (T := TX8) (N := 36) hx hb hts hinX8 hown hK.1 hP 0 rfl rfl 10 (by decide) (hts _ (List.mem_of_getElem? (i := 2) rfl)) (fun _ h9 => h9) rfl dX8_schedule_55 ?_
          refine lv_bipush (v := iI 12) hx hb dX8_schedule_58 (by decide) ?_
          refine zi_cne (tgt := 69) hx hb (by omega) (by decide) dX8_schedule_60 (by decide) (fun c_20 => ?_) (fun c_20 => ?_)
          · skip
            refine lv_aload_n hx hb dX8_schedule_69 rfl (lv_at hl 0 rfl) ?_
            refine zc_v (va_runV (As := []) (rest := []) ⟨hx, hb, hml, hown, hts⟩ (kX8_stirs l dC dI cI cJ cZ q pw co la vo nC par div dee use mrun nT due lat wk nE tk ld rule now st asl idn idl sp pe tin slp late srv hv av bd sh mL mB (1 - 1) (by first | assumption | omega | exact b2i_01 _) (by first | assumption | omega | exact b2i_01 _) (by first | assumption | omega | exact b2i_01 _) (by first | assumption | omega | exact b2i_01 _) (by first | assumption | omega | exact b2i_01 _) (by first | assumption | omega | exact b2i_01 _) H.size) (cwV 0 hts gX8_schedule_X8_stirs rfl rfl rfl (by decide +kernel) ⟨Nat.le_of_ble_eq_true rfl, Nat.le_of_ble_eq_true rfl⟩) (zpV hK hP hD [0, 1, 2, 3, 4, 5, 6, 7, 8, 9, 10, 11, 12, 13, 14, 15, 16, 17, 18, 19] rfl rfl 0 rfl rfl) rfl rfl hl.1 rfl (lv_room (Nat.le_of_ble_eq_true rfl)) dX8_schedule_70 ⟨Nat.le_of_ble_eq_true rfl, Nat.le_of_ble_eq_true rfl⟩) hP hD hS hA [0, 1, 2, 3, 4, 5, 6, 7, 8, 9, 10, 11, 12, 13, 14, 15, 16, 17, 18, 19] [] rfl rfl rfl (by decide) (fun u_22 H locs r_21 hP hD hS => ?_)
            obtain ⟨stx_24, spx_25, pex_26, idlx_27, idnx_28⟩ := u_22
            have r_21 : (stx_24, spx_25, pex_26, idlx_27, idnx_28) = scF pw la st asl now sp pe idl idn := r_21
            have hP : va_P (dC, dI) vwCl (wM cI cJ cZ q pw co la vo nC par div dee use mrun nT due lat wk nE tk ld rule now stx_24 asl idnx_28 idlx_27 spx_25 pex_26 tin slp late srv hv av bd sh mL mB (1 - 1)) H := hP
            have hD : va_D A (wM cI cJ cZ q pw co la vo nC par div dee use mrun nT due lat wk nE tk ld rule now stx_24 asl idnx_28 idlx_27 spx_25 pex_26 tin slp late srv hv av bd sh mL mB (1 - 1)) := hD
            have hsc9 := r_21
            refine lv_aload_n hx hb dX8_schedule_73 rfl (lv_at hl 0 rfl) ?_
            refine va_get (D := (dC, dI)) (ci := 8) (v := .ref (q 10)) (C := RX8) (T := TX8) (N := 36) hx hb hts hinX8 hown hK.1 hP 0 rfl rfl 11 (by decide) (hts _ (List.mem_of_getElem? (i := 3) rfl)) (fun _ h9 => h9) rfl dX8_schedule_74 ?_
            refine lv_aload_n hx hb dX8_schedule_77 rfl (lv_at hl 0 rfl) ?_
            refine va_get (D := (dC, dI)) (ci := 8) (v := .int (iI nT)) (C := RX8) (T := TX8) (N := 36) hx hb hts hinX8 hown hK.1 hP 0 rfl rfl 10 (by decide) (hts _ (List.mem_of_getElem? (i := 2) rfl)) (fun _ h9 => h9) rfl dX8_schedule_78 ?_
            refine lv_iload_n hx hb dX8_schedule_81 rfl (lv_at hl 1 rfl) ?_
            refine za_st hx hb hK hP hD hS 10 0 rfl rfl (by omega) (by omega) dX8_schedule_82 (fun H locs hP hD hS => ?_)
            have hP : va_P (dC, dI) vwCl (wM cI cJ cZ q pw co la vo nC par div dee use mrun nT (uZ due nT x1) lat wk nE tk ld rule now stx_24 asl idnx_28 idlx_27 spx_25 pex_26 tin slp late srv hv av bd sh mL mB (1 - 1)) H := hP
            have hD : va_D A (wM cI cJ cZ q pw co la vo nC par div dee use mrun nT (uZ due nT x1) lat wk nE tk ld rule now stx_24 asl idnx_28 idlx_27 spx_25 pex_26 tin slp late srv hv av bd sh mL mB (1 - 1)) := hD
            refine lv_aload_n hx hb dX8_schedule_83 rfl (lv_at hl 0 rfl) ?_
            refine va_get (D := (dC, dI)) (ci := 8) (v := .ref (q 11)) (C := RX8) (T := TX8) (N := 36) hx hb hts hinX8 hown hK.1 hP 0 rfl rfl 12 (by decide) (hts _ (List.mem_of_getElem? (i := 4) rfl)) (fun _ h9 => h9) rfl dX8_schedule_84 ?_
            refine lv_aload_n hx hb dX8_schedule_87 rfl (lv_at hl 0 rfl) ?_
            refine va_get (D := (dC, dI)) (ci := 8) (v := .int (iI nT)) (C := RX8) (T := TX8) (N := 36) hx hb hts hinX8 hown hK.1 hP 0 rfl rfl 10 (by decide) (hts _ (List.mem_of_getElem? (i := 2) rfl)) (fun _ h9 => h9) rfl dX8_schedule_88 ?_
            refine lv_iload_n hx hb dX8_schedule_91 rfl (lv_at hl 1 rfl) ?_
            refine lv_iload_n hx hb dX8_schedule_92 rfl (lv_at hl 2 rfl) ?_
            refine zi_add hx hb dX8_schedule_93 ?_
            refine za_st hx hb hK hP hD hS 11 0 rfl rfl (by omega) (by omega) dX8_schedule_94 (fun H locs hP hD hS => ?_)
            have hP : va_P (dC, dI) vwCl (wM cI cJ cZ q pw co la vo nC par div dee use mrun nT (uZ due nT x1) (uZ lat nT (x1 + x2)) wk nE tk ld rule now stx_24 asl idnx_28 idlx_27 spx_25 pex_26 tin slp late srv hv av bd sh mL mB (1 - 1)) H := hP
            have hD : va_D A (wM cI cJ cZ q pw co la vo nC par div dee use mrun nT (uZ due nT x1) (uZ lat nT (x1 + x2)) wk nE tk ld rule now stx_24 asl idnx_28 idlx_27 spx_25 pex_26 tin slp late srv hv av bd sh mL mB (1 - 1)) := hD
            refine lv_aload_n hx hb dX8_schedule_95 rfl (lv_at hl 0 rfl) ?_
            refine va_get (D := (dC, dI)) (ci := 8) (v := .ref (q 12)) (C := RX8) (T := TX8) (N := 36) hx hb hts hinX8 hown hK.1 hP 0 rfl rfl 13 (by decide) (hts _ (List.mem_of_getElem? (i := 5) rfl)) (fun _ h9 => h9) rfl dX8_schedule_96 ?_
            refine lv_aload_n hx hb dX8_schedule_99 rfl (lv_at hl 0 rfl) ?_
            refine va_get (D := (dC, dI)) (ci := 8) (v := .int (iI nT)) (C := RX8) (T := TX8) (N := 36) hx hb hts hinX8 hown hK.1 hP 0 rfl rfl 10 (by decide) (hts _ (List.mem_of_getElem? (i := 2) rfl)) (fun _ h9 => h9) rfl dX8_schedule_100 ?_
            refine lv_iload_n hx hb dX8_schedule_103 rfl (lv_at hl 3 rfl) ?_
            refine za_st hx hb hK hP hD hS 12 0 rfl rfl (by omega) (by omega) dX8_schedule_104 (fun H locs hP hD hS => ?_)
            have hP : va_P (dC, dI) vwCl (wM cI cJ cZ q pw co la vo nC par div dee use mrun nT (uZ due nT x1) (uZ lat nT (x1 + x2)) (uZ wk nT x3) nE tk ld rule now stx_24 asl idnx_28 idlx_27 spx_25 pex_26 tin slp late srv hv av bd sh mL mB (1 - 1)) H := hP
            have hD : va_D A (wM cI cJ cZ q pw co la vo nC par div dee use mrun nT (uZ due nT x1) (uZ lat nT (x1 + x2)) (uZ wk nT x3) nE tk ld rule now stx_24 asl idnx_28 idlx_27 spx_25 pex_26 tin slp late srv hv av bd sh mL mB (1 - 1)) := hD
            refine lv_aload_n hx hb dX8_schedule_105 rfl (lv_at hl 0 rfl) ?_
            refine lv_dup hx hb dX8_schedule_106 rfl ?_
            refine va_get (D := (dC, dI)) (ci := 8) (v := .int (iI nT)) (C := RX8) (T := TX8) (N := 36) hx hb hts hinX8 hown hK.1 hP 0 rfl rfl 10 (by decide) (hts _ (List.mem_of_getElem? (i := 2) rfl)) (fun _ h9 => h9) rfl dX8_schedule_107 ?_
            refine lv_iconst (v := iI 1) hx hb dX8_schedule_110 rfl ?_
            refine zi_add hx hb dX8_schedule_111 ?_
            refine va_put (D := (dC, dI)) (ci := 8) (v := .int (iI (nT + 1))) (ty := .int) (C := RX8) (T := TX8) (N := 36) hx hb hts hinX8 tyX8 tyX8_ok nmX8 hown hK.1 hP hD hS 0 rfl rfl 10 (by decide) (hts _ (List.mem_of_getElem? (i := 2) rfl)) (fun _ h9 => h9) rfl (by decide +kernel) rfl rfl (Nat.le_of_ble_eq_true rfl) dX8_schedule_112 (fun H locs hP hD hS => ?_)
            have hP : va_P (dC, dI) vwCl (wM cI cJ cZ q pw co la vo nC par div dee use mrun (nT + 1) (uZ due nT x1) (uZ lat nT (x1 + x2)) (uZ wk nT x3) nE tk ld rule now stx_24 asl idnx_28 idlx_27 spx_25 pex_26 tin slp late srv hv av bd sh mL mB (1 - 1)) H := hP
            have hD : va_D A (wM cI cJ cZ q pw co la vo nC par div dee use mrun (nT + 1) (uZ due nT x1) (uZ lat nT (x1 + x2)) (uZ wk nT x3) nE tk ld rule now stx_24 asl idnx_28 idlx_27 spx_25 pex_26 tin slp late srv hv av bd sh mL mB (1 - 1)) := hD
            refine lv_aload_n hx hb dX8_schedule_115 rfl (lv_at hl 0 rfl) ?_
            refine va_get (D := (dC, dI)) (ci := 8) (v := .int (iI (nT + 1))) (C := RX8) (T := TX8) (N := 36) hx hb hts hinX8 hown hK.1 hP 0 rfl rfl 10 (by decide) (hts _ (List.mem_of_getElem? (i := 2) rfl)) (fun _ h9 => h9) rfl dX8_schedule_116 ?_
            subst hQ
            exact zret_i (W1 := fun u9 : Int × Int × Int × Int × Int × (Int → Int) × Int × (Int → Int) × (Int → Int) × (Int → Int) × Int => wM cI cJ cZ q pw co la vo nC par div dee use mrun (u9.2.2.2.2.2.2.2.2.2.2) (u9.2.2.2.2.2.2.2.1) (u9.2.2.2.2.2.2.2.2.1) (u9.2.2.2.2.2.2.2.2.2.1) nE tk ld rule now (u9.2.2.1) asl (u9.2.2.2.2.2.2.1) (u9.2.2.2.2.2.1) (u9.2.2.2.1) (u9.2.2.2.2.1) tin slp late srv hv av bd sh mL mB (u9.2.1)) (nT + 1, 1 - 1, stx_24, spx_25, pex_26, idlx_27, idnx_28, uZ due nT x1, uZ lat nT (x1 + x2), uZ wk nT x3, nT + 1) hx hb hr hP hD hS hlocks dX8_schedule_119 (by first | (exact ⟨rfl, Or.inl (⟨by omega, by omega, by (first | rfl | (rw [b2i_t (by omega)]; done) | (rw [b2i_f (by omega)]; done) | (rw [b2i_t (by omega)]; rfl) | (rw [b2i_f (by omega)]; rfl)), by first | rfl | omega, by exact hsc9, by rfl, by rfl, by rfl, by rfl⟩)⟩) | (exact ⟨rfl, Or.inr (Or.inl (⟨by omega, by (first | rfl | (rw [b2i_t (by omega)]; done) | (rw [b2i_f (by omega)]; done) | (rw [b2i_t (by omega)]; rfl) | (rw [b2i_f (by omega)]; rfl)), rfl, rfl, rfl, rfl, rfl, rfl, rfl, rfl, rfl⟩))⟩) | (exact ⟨rfl, Or.inr (Or.inr (⟨by omega, by omega, by (first | rfl | (rw [b2i_t (by omega)]; done) | (rw [b2i_f (by omega)]; done) | (rw [b2i_t (by omega)]; rfl) | (rw [b2i_f (by omega)]; rfl)), rfl, rfl, rfl, rfl, rfl, rfl, rfl, rfl, rfl⟩))⟩))
          · skip
            refine lv_aload_n hx hb dX8_schedule_63 rfl (lv_at hl 0 rfl) ?_
            refine lv_iconst (v := iI 2) hx hb dX8_schedule_64 rfl ?_
            refine zc_i (va_runV (As := [.int (iI 2)]) (rest := []) ⟨hx, hb, hml, hown, hts⟩ (kX8_fails l dC dI cI cJ cZ q pw co la vo nC par div dee use mrun nT due lat wk nE tk ld rule now st asl idn idl sp pe tin slp late srv hv av bd sh mL mB (1 - 1) 2 H.size) (cwV 1 hts gX8_schedule_X8_fails rfl rfl rfl (by decide +kernel) ⟨Nat.le_of_ble_eq_true rfl, Nat.le_of_ble_eq_true rfl⟩) (zpV hK hP hD [0, 1, 2, 3, 4, 5, 6, 7, 8, 9, 10, 11, 12, 13, 14, 15, 16, 17, 18, 19] rfl rfl 0 rfl rfl) rfl rfl hl.1 rfl (lv_room (Nat.le_of_ble_eq_true rfl)) dX8_schedule_65 ⟨Nat.le_of_ble_eq_true rfl, Nat.le_of_ble_eq_true rfl⟩) hP hD hS hA [0, 1, 2, 3, 4, 5, 6, 7, 8, 9, 10, 11, 12, 13, 14, 15, 16, 17, 18, 19] [] rfl rfl rfl (by decide) (fun v_31 u_30 H locs r_29 hP hD hS => ?_)
            refine ze_i r_29 ?_
            have hP : va_P (dC, dI) vwCl (wM cI cJ cZ q pw co la vo nC par div dee use mrun nT due lat wk nE tk ld rule now st asl idn idl sp pe tin slp late srv hv av bd sh mL mB 2) H := hP
            have hD : va_D A (wM cI cJ cZ q pw co la vo nC par div dee use mrun nT due lat wk nE tk ld rule now st asl idn idl sp pe tin slp late srv hv av bd sh mL mB 2) := hD
            subst hQ
            exact zret_i (W1 := fun u9 : Int × Int × Int × Int × Int × (Int → Int) × Int × (Int → Int) × (Int → Int) × (Int → Int) × Int => wM cI cJ cZ q pw co la vo nC par div dee use mrun (u9.2.2.2.2.2.2.2.2.2.2) (u9.2.2.2.2.2.2.2.1) (u9.2.2.2.2.2.2.2.2.1) (u9.2.2.2.2.2.2.2.2.2.1) nE tk ld rule now (u9.2.2.1) asl (u9.2.2.2.2.2.2.1) (u9.2.2.2.2.2.1) (u9.2.2.2.1) (u9.2.2.2.2.1) tin slp late srv hv av bd sh mL mB (u9.2.1)) (0, 2, st, sp, pe, idl, idn, due, lat, wk, nT) hx hb hr hP hD hS hlocks dX8_schedule_68 (by first | (exact ⟨rfl, Or.inl (⟨by omega, by omega, by (first | rfl | (rw [b2i_t (by omega)]; done) | (rw [b2i_f (by omega)]; done) | (rw [b2i_t (by omega)]; rfl) | (rw [b2i_f (by omega)]; rfl)), by first | rfl | omega, by exact hsc9, by rfl, by rfl, by rfl, by rfl⟩)⟩) | (exact ⟨rfl, Or.inr (Or.inl (⟨by omega, by (first | rfl | (rw [b2i_t (by omega)]; done) | (rw [b2i_f (by omega)]; done) | (rw [b2i_t (by omega)]; rfl) | (rw [b2i_f (by omega)]; rfl)), rfl, rfl, rfl, rfl, rfl, rfl, rfl, rfl, rfl⟩))⟩) | (exact ⟨rfl, Or.inr (Or.inr (⟨by omega, by omega, by (first | rfl | (rw [b2i_t (by omega)]; done) | (rw [b2i_f (by omega)]; done) | (rw [b2i_t (by omega)]; rfl) | (rw [b2i_f (by omega)]; rfl)), rfl, rfl, rfl, rfl, rfl, rfl, rfl, rfl, rfl⟩))⟩))
        · skip
          exact absurd c_19 (by decide)
def rmX8_addEvent : Room := { frames := 1, cells := 0, slots := 0, locals := 22 }
set_option maxRecDepth 100000 in
set_option maxHeartbeats 4000000 in
theorem kX8_addEvent (l : Launch) (dC : Nat → ClassId) (dI : Nat → Nat → Nat) (cI cJ cZ : ClassId) (q : Nat → Nat)  (pw : Int → Int) (co : Int → Int) (la : Int → Int) (vo : Int → Int) (nC : Int) (par : Int → Int) (div : Int → Int) (dee : Int → Int) (use : Int → Int) (mrun : Int → Int) (nT : Int) (due : Int → Int) (lat : Int → Int) (wk : Int → Int) (nE : Int) (tk : Int → Int) (ld : Int → Int) (rule : Int) (now : Int) (st : Int) (asl : Int) (idn : Int) (idl : Int → Int) (sp : Int) (pe : Int) (tin : Int → Int) (slp : Int) (late : Int) (srv : Int) (hv : Int → Int) (av : Int) (bd : Int) (sh : Int) (mL : Int → Int) (mB : Int → Int) (thr : Int) (x1 x2 : Int) (hx1 : zR x1) (hx2 : zR x2) (hnE : 0 ≤ nE ∧ nE ≤ 12) (hnow : 0 ≤ now ∧ now ≤ 200000) : zMi l yX8_addEvent wsX8_addEvent rmX8_addEvent (dC, dI) (zT cI cJ cZ) (wM cI cJ cZ q pw co la vo nC par div dee use mrun nT due lat wk nE tk ld rule now st asl idn idl sp pe tin slp late srv hv av bd sh mL mB thr) [.ref (q 0), .int (iI x1), .int (iI x2)] (fun (r9 : Int) (u9 : Int × Int × (Int → Int) × (Int → Int) × Int) => r9 = (u9.1) ∧ ((((now ≤ x1 ∧ x1 ≤ now + 1000) ∧ (1 ≤ x2 ∧ x2 ≤ 50)) ∧ (nE < 12) ∧ (u9.2.1) = 0 ∧ (u9.1) = nE + 1 ∧ (u9.2.2.1) = uZ tk nE x1 ∧ (u9.2.2.2.1) = uZ ld nE x2 ∧ (u9.2.2.2.2) = nE + 1) ∨ (¬ ((now ≤ x1 ∧ x1 ≤ now + 1000) ∧ (1 ≤ x2 ∧ x2 ≤ 50)) ∧ (u9.2.1) = 1 ∧ (u9.2.2.1) = tk ∧ (u9.2.2.2.1) = ld ∧ (u9.2.2.2.2) = nE) ∨ (((now ≤ x1 ∧ x1 ≤ now + 1000) ∧ (1 ≤ x2 ∧ x2 ≤ 50)) ∧ ¬ (nE < 12) ∧ (u9.2.1) = 2 ∧ (u9.2.2.1) = tk ∧ (u9.2.2.2.1) = ld ∧ (u9.2.2.2.2) = nE))) (fun u9 : Int × Int × (Int → Int) × (Int → Int) × Int => wM cI cJ cZ q pw co la vo nC par div dee use mrun nT due lat wk (u9.2.2.2.2) (u9.2.2.1) (u9.2.2.2.1) rule now st asl idn idl sp pe tin slp late srv hv av bd sh mL mB (u9.2.1)) 0 0 := by
  refine zent_i (cc := cX8_addEvent) (maxL := 3) (ret := (some .int)) (by decide +kernel) rfl (Nat.le_of_ble_eq_true rfl) ?_
  intro p e s m below meth c A ls hE hP hK hA hD hS hl
  obtain ⟨hx, hb, hr, hml, hown, hts, hlocks, hmn⟩ := hE
  have hinX8 : ∀ w ∈ u_ws RX8 TX8 36, w ∈ wsX8_addEvent := by decide +kernel
  have hl : lv_has ls 3 [(0, .ref (q 0)), (1, .int (iI x1)), (2, .int (iI x2))] := hl
  refine z_gen (fun Q hQ => ?_)
  refine lv_aload_n hx hb dX8_addEvent_0 rfl (lv_at hl 0 rfl) ?_
  refine lv_iload_n hx hb dX8_addEvent_1 rfl (lv_at hl 1 rfl) ?_
  refine lv_aload_n hx hb dX8_addEvent_2 rfl (lv_at hl 0 rfl) ?_
  refine va_get (D := (dC, dI)) (ci := 8) (v := .int (iI now)) (C := RX8) (T := TX8) (N := 36) hx hb hts hinX8 hown hK.1 hP 0 rfl rfl 18 (by decide) (hts _ (List.mem_of_getElem? (i := 1) rfl)) (fun _ h9 => h9) rfl dX8_addEvent_3 ?_
  refine lv_aload_n hx hb dX8_addEvent_6 rfl (lv_at hl 0 rfl) ?_
  refine va_get (D := (dC, dI)) (ci := 8) (v := .int (iI now)) (C := RX8) (T := TX8) (N := 36) hx hb hts hinX8 hown hK.1 hP 0 rfl rfl 18 (by decide) (hts _ (List.mem_of_getElem? (i := 1) rfl)) (fun _ h9 => h9) rfl dX8_addEvent_7 ?_
  refine lv_sipush (v := iI 1000) hx hb dX8_addEvent_10 (by decide) ?_
  refine zi_add hx hb dX8_addEvent_13 ?_
  refine zc_pi (va_runS (As := [.int (iI x1), .int (iI now), .int (iI (now + 1000))]) (rest := [.ref (q 0)]) ⟨hx, hb, hml, hown, hts⟩ (kX8_in l dC dI cI cJ cZ x1 now (now + 1000) (by first | assumption | omega | exact b2i_01 _) (by first | assumption | omega | exact b2i_01 _) (by first | assumption | omega | exact b2i_01 _)) (va_cwS 3 hts gX8_addEvent_X8_in rfl rfl rfl (by decide +kernel) ⟨Nat.le_of_ble_eq_true rfl, Nat.le_of_ble_eq_true rfl⟩) (zqS hK hP [] rfl) rfl rfl hl.1 rfl (lv_room (Nat.le_of_ble_eq_true rfl)) dX8_addEvent_14 ⟨Nat.le_of_ble_eq_true rfl, Nat.le_of_ble_eq_true rfl⟩) ?_
  refine zb_feq (tgt := 34) hx hb dX8_addEvent_17 (by decide) (fun c_1 => ?_) (fun c_1 => ?_)
  · skip
    refine lv_iconst (v := iI 0) hx hb dX8_addEvent_34 rfl ?_
    refine zc_i (va_runV (As := [.int (iI 0)]) (rest := []) ⟨hx, hb, hml, hown, hts⟩ (kX8_asks l dC dI cI cJ cZ q pw co la vo nC par div dee use mrun nT due lat wk nE tk ld rule now st asl idn idl sp pe tin slp late srv hv av bd sh mL mB thr 0 (by first | assumption | omega | exact b2i_01 _) s.heap.size) (cwV 1 hts gX8_addEvent_X8_asks rfl rfl rfl (by decide +kernel) ⟨Nat.le_of_ble_eq_true rfl, Nat.le_of_ble_eq_true rfl⟩) (zpV hK hP hD [0, 1, 2, 3, 4, 5, 6, 7, 8, 9, 10, 11, 12, 13, 14, 15, 16, 17, 18, 19] rfl rfl 0 rfl rfl) rfl rfl hl.1 rfl (lv_room (Nat.le_of_ble_eq_true rfl)) dX8_addEvent_35 ⟨Nat.le_of_ble_eq_true rfl, Nat.le_of_ble_eq_true rfl⟩) hP hD hS hA [0, 1, 2, 3, 4, 5, 6, 7, 8, 9, 10, 11, 12, 13, 14, 15, 16, 17, 18, 19] [] rfl rfl rfl (by decide) (fun v_4 u_3 H locs r_2 hP hD hS => ?_)
    refine ze_i r_2 ?_
    have hP : va_P (dC, dI) vwCl (wM cI cJ cZ q pw co la vo nC par div dee use mrun nT due lat wk nE tk ld rule now st asl idn idl sp pe tin slp late srv hv av bd sh mL mB (1 - 0)) H := hP
    have hD : va_D A (wM cI cJ cZ q pw co la vo nC par div dee use mrun nT due lat wk nE tk ld rule now st asl idn idl sp pe tin slp late srv hv av bd sh mL mB (1 - 0)) := hD
    refine zi_fne (tgt := 43) hx hb (by decide) dX8_addEvent_38 (by decide) (fun c_5 => ?_) (fun c_5 => ?_)
    · skip
      exact absurd c_5 (by decide)
    · skip
      refine lv_iconst (v := iI 0) hx hb dX8_addEvent_41 rfl ?_
      subst hQ
      exact zret_i (W1 := fun u9 : Int × Int × (Int → Int) × (Int → Int) × Int => wM cI cJ cZ q pw co la vo nC par div dee use mrun nT due lat wk (u9.2.2.2.2) (u9.2.2.1) (u9.2.2.2.1) rule now st asl idn idl sp pe tin slp late srv hv av bd sh mL mB (u9.2.1)) (0, 1 - 0, tk, ld, nE) hx hb hr hP hD hS hlocks dX8_addEvent_42 (by first | (exact ⟨rfl, Or.inl (⟨by omega, by omega, by (first | rfl | (rw [b2i_t (by omega)]; done) | (rw [b2i_f (by omega)]; done) | (rw [b2i_t (by omega)]; rfl) | (rw [b2i_f (by omega)]; rfl)), by first | rfl | omega, by rfl, by rfl, by rfl⟩)⟩) | (exact ⟨rfl, Or.inr (Or.inl (⟨by omega, by (first | rfl | (rw [b2i_t (by omega)]; done) | (rw [b2i_f (by omega)]; done) | (rw [b2i_t (by omega)]; rfl) | (rw [b2i_f (by omega)]; rfl)), rfl, rfl, rfl⟩))⟩) | (exact ⟨rfl, Or.inr (Or.inr (⟨by omega, by omega, by (first | rfl | (rw [b2i_t (by omega)]; done) | (rw [b2i_f (by omega)]; done) | (rw [b2i_t (by omega)]; rfl) | (rw [b2i_f (by omega)]; rfl)), rfl, rfl, rfl⟩))⟩))
  · skip
    refine lv_iload_n hx hb dX8_addEvent_20 rfl (lv_at hl 2 rfl) ?_
    refine lv_iconst (v := iI 1) hx hb dX8_addEvent_21 rfl ?_
    refine lv_bipush (v := iI 50) hx hb dX8_addEvent_22 (by decide) ?_
    refine zc_pi (va_runS (As := [.int (iI x2), .int (iI 1), .int (iI 50)]) (rest := [.ref (q 0)]) ⟨hx, hb, hml, hown, hts⟩ (kX8_in l dC dI cI cJ cZ x2 1 50 (by first | assumption | omega | exact b2i_01 _) (by first | assumption | omega | exact b2i_01 _) (by first | assumption | omega | exact b2i_01 _)) (va_cwS 3 hts gX8_addEvent_X8_in rfl rfl rfl (by decide +kernel) ⟨Nat.le_of_ble_eq_true rfl, Nat.le_of_ble_eq_true rfl⟩) (zqS hK hP [] rfl) rfl rfl hl.1 rfl (lv_room (Nat.le_of_ble_eq_true rfl)) dX8_addEvent_24 ⟨Nat.le_of_ble_eq_true rfl, Nat.le_of_ble_eq_true rfl⟩) ?_
    refine zb_feq (tgt := 34) hx hb dX8_addEvent_27 (by decide) (fun c_6 => ?_) (fun c_6 => ?_)
    · skip
      refine lv_iconst (v := iI 0) hx hb dX8_addEvent_34 rfl ?_
      refine zc_i (va_runV (As := [.int (iI 0)]) (rest := []) ⟨hx, hb, hml, hown, hts⟩ (kX8_asks l dC dI cI cJ cZ q pw co la vo nC par div dee use mrun nT due lat wk nE tk ld rule now st asl idn idl sp pe tin slp late srv hv av bd sh mL mB thr 0 (by first | assumption | omega | exact b2i_01 _) s.heap.size) (cwV 1 hts gX8_addEvent_X8_asks rfl rfl rfl (by decide +kernel) ⟨Nat.le_of_ble_eq_true rfl, Nat.le_of_ble_eq_true rfl⟩) (zpV hK hP hD [0, 1, 2, 3, 4, 5, 6, 7, 8, 9, 10, 11, 12, 13, 14, 15, 16, 17, 18, 19] rfl rfl 0 rfl rfl) rfl rfl hl.1 rfl (lv_room (Nat.le_of_ble_eq_true rfl)) dX8_addEvent_35 ⟨Nat.le_of_ble_eq_true rfl, Nat.le_of_ble_eq_true rfl⟩) hP hD hS hA [0, 1, 2, 3, 4, 5, 6, 7, 8, 9, 10, 11, 12, 13, 14, 15, 16, 17, 18, 19] [] rfl rfl rfl (by decide) (fun v_9 u_8 H locs r_7 hP hD hS => ?_)
      refine ze_i r_7 ?_
      have hP : va_P (dC, dI) vwCl (wM cI cJ cZ q pw co la vo nC par div dee use mrun nT due lat wk nE tk ld rule now st asl idn idl sp pe tin slp late srv hv av bd sh mL mB (1 - 0)) H := hP
      have hD : va_D A (wM cI cJ cZ q pw co la vo nC par div dee use mrun nT due lat wk nE tk ld rule now st asl idn idl sp pe tin slp late srv hv av bd sh mL mB (1 - 0)) := hD
      refine zi_fne (tgt := 43) hx hb (by decide) dX8_addEvent_38 (by decide) (fun c_10 => ?_) (fun c_10 => ?_)
      · skip
        exact absurd c_10 (by decide)
      · skip
        refine lv_iconst (v := iI 0) hx hb dX8_addEvent_41 rfl ?_
        subst hQ
        exact zret_i (W1 := fun u9 : Int × Int × (Int → Int) × (Int → Int) × Int => wM cI cJ cZ q pw co la vo nC par div dee use mrun nT due lat wk (u9.2.2.2.2) (u9.2.2.1) (u9.2.2.2.1) rule now st asl idn idl sp pe tin slp late srv hv av bd sh mL mB (u9.2.1)) (0, 1 - 0, tk, ld, nE) hx hb hr hP hD hS hlocks dX8_addEvent_42 (by first | (exact ⟨rfl, Or.inl (⟨by omega, by omega, by (first | rfl | (rw [b2i_t (by omega)]; done) | (rw [b2i_f (by omega)]; done) | (rw [b2i_t (by omega)]; rfl) | (rw [b2i_f (by omega)]; rfl)), by first | rfl | omega, by rfl, by rfl, by rfl⟩)⟩) | (exact ⟨rfl, Or.inr (Or.inl (⟨by omega, by (first | rfl | (rw [b2i_t (by omega)]; done) | (rw [b2i_f (by omega)]; done) | (rw [b2i_t (by omega)]; rfl) | (rw [b2i_f (by omega)]; rfl)), rfl, rfl, rfl⟩))⟩) | (exact ⟨rfl, Or.inr (Or.inr (⟨by omega, by omega, by (first | rfl | (rw [b2i_t (by omega)]; done) | (rw [b2i_f (by omega)]; done) | (rw [b2i_t (by omega)]; rfl) | (rw [b2i_f (by omega)]; rfl)), rfl, rfl, rfl⟩))⟩))
    · skip
      refine lv_iconst (v := iI 1) hx hb dX8_addEvent_30 rfl ?_
      refine lv_goto (tgt := 35) hx hb dX8_addEvent_31 (by decide) ?_
      refine zc_i (va_runV (As := [.int (iI 1)]) (rest := []) ⟨hx, hb, hml, hown, hts⟩ (kX8_asks l dC dI cI cJ cZ q pw co la vo nC par div dee use mrun nT due lat wk nE tk ld rule now st asl idn idl sp pe tin slp late srv hv av bd sh mL mB thr 1 (by first | assumption | omega | exact b2i_01 _) s.heap.size) (cwV 1 hts gX8_addEvent_X8_asks rfl rfl rfl (by decide +kernel) ⟨Nat.le_of_ble_eq_true rfl, Nat.le_of_ble_eq_true rfl⟩) (zpV hK hP hD [0, 1, 2, 3, 4, 5, 6, 7, 8, 9, 10, 11, 12, 13, 14, 15, 16, 17, 18, 19] rfl rfl 0 rfl rfl) rfl rfl hl.1 rfl (lv_room (Nat.le_of_ble_eq_true rfl)) dX8_addEvent_35 ⟨Nat.le_of_ble_eq_true rfl, Nat.le_of_ble_eq_true rfl⟩) hP hD hS hA [0, 1, 2, 3, 4, 5, 6, 7, 8, 9, 10, 11, 12, 13, 14, 15, 16, 17, 18, 19] [] rfl rfl rfl (by decide) (fun v_13 u_12 H locs r_11 hP hD hS => ?_)
      refine ze_i r_11 ?_
      have hP : va_P (dC, dI) vwCl (wM cI cJ cZ q pw co la vo nC par div dee use mrun nT due lat wk nE tk ld rule now st asl idn idl sp pe tin slp late srv hv av bd sh mL mB (1 - 1)) H := hP
      have hD : va_D A (wM cI cJ cZ q pw co la vo nC par div dee use mrun nT due lat wk nE tk ld rule now st asl idn idl sp pe tin slp late srv hv av bd sh mL mB (1 - 1)) := hD
      refine zi_fne (tgt := 43) hx hb (by decide) dX8_addEvent_38 (by decide) (fun c_14 => ?_) (fun c_14 => ?_)
      · skip
        refine lv_aload_n hx hb dX8_addEvent_43 rfl (lv_at hl 0 rfl) ?_
        refine va_get (D := (dC, dI)) (ci := 8) (v := .int (iI nE)) (C := RX8) (T := TX8) (N := 36) hx hb hts hinX8 hown hK.1 hP 0 rfl rfl 14 (by decide) (hts _ (List.mem_of_getElem? (i := 2) rfl)) (fun _ h9 => h9) rfl dX8_addEvent_44 ?_
        refine lv_bipush (v := iI 12) hx hb dX8_addEvent_47 (by decide) ?_
        refine zi_cne (tgt := 58) hx hb (by omega) (by decide) dX8_addEvent_49 (by decide) (fun c_15 => ?_) (fun c_15 => ?_)
        · skip
          refine lv_aload_n hx hb dX8_addEvent_58 rfl (lv_at hl 0 rfl) ?_
          refine va_get (D := (dC, dI)) (ci := 8) (v := .ref (q 13)) (C := RX8) (T := TX8) (N := 36) hx hb hts hinX8 hown hK.1 hP 0 rfl rfl 15 (by decide) (hts _ (List.mem_of_getElem? (i := 3) rfl)) (fun _ h9 => h9) rfl dX8_addEvent_59 ?_
          refine lv_aload_n hx hb dX8_addEvent_62 rfl (lv_at hl 0 rfl) ?_
          refine va_get (D := (dC, dI)) (ci := 8) (v := .int (iI nE)) (C := RX8) (T := TX8) (N := 36) hx hb hts hinX8 hown hK.1 hP 0 rfl rfl 14 (by decide) (hts _ (List.mem_of_getElem? (i := 2) rfl)) (fun _ h9 => h9) rfl dX8_addEvent_63 ?_
          refine lv_iload_n hx hb dX8_addEvent_66 rfl (lv_at hl 1 rfl) ?_
          refine za_st hx hb hK hP hD hS 13 0 rfl rfl (by omega) (by omega) dX8_addEvent_67 (fun H locs hP hD hS => ?_)
          have hP : va_P (dC, dI) vwCl (wM cI cJ cZ q pw co la vo nC par div dee use mrun nT due lat wk nE (uZ tk nE x1) ld rule now st asl idn idl sp pe tin slp late srv hv av bd sh mL mB (1 - 1)) H := hP
          have hD : va_D A (wM cI cJ cZ q pw co la vo nC par div dee use mrun nT due lat wk nE (uZ tk nE x1) ld rule now st asl idn idl sp pe tin slp late srv hv av bd sh mL mB (1 - 1)) := hD
          refine lv_aload_n hx hb dX8_addEvent_68 rfl (lv_at hl 0 rfl) ?_
          refine va_get (D := (dC, dI)) (ci := 8) (v := .ref (q 14)) (C := RX8) (T := TX8) (N := 36) hx hb hts hinX8 hown hK.1 hP 0 rfl rfl 16 (by decide) (hts _ (List.mem_of_getElem? (i := 4) rfl)) (fun _ h9 => h9) rfl dX8_addEvent_69 ?_
          refine lv_aload_n hx hb dX8_addEvent_72 rfl (lv_at hl 0 rfl) ?_
          refine va_get (D := (dC, dI)) (ci := 8) (v := .int (iI nE)) (C := RX8) (T := TX8) (N := 36) hx hb hts hinX8 hown hK.1 hP 0 rfl rfl 14 (by decide) (hts _ (List.mem_of_getElem? (i := 2) rfl)) (fun _ h9 => h9) rfl dX8_addEvent_73 ?_
          refine lv_iload_n hx hb dX8_addEvent_76 rfl (lv_at hl 2 rfl) ?_
          refine za_st hx hb hK hP hD hS 14 0 rfl rfl (by omega) (by omega) dX8_addEvent_77 (fun H locs hP hD hS => ?_)
          have hP : va_P (dC, dI) vwCl (wM cI cJ cZ q pw co la vo nC par div dee use mrun nT due lat wk nE (uZ tk nE x1) (uZ ld nE x2) rule now st asl idn idl sp pe tin slp late srv hv av bd sh mL mB (1 - 1)) H := hP
          have hD : va_D A (wM cI cJ cZ q pw co la vo nC par div dee use mrun nT due lat wk nE (uZ tk nE x1) (uZ ld nE x2) rule now st asl idn idl sp pe tin slp late srv hv av bd sh mL mB (1 - 1)) := hD
          refine lv_aload_n hx hb dX8_addEvent_78 rfl (lv_at hl 0 rfl) ?_
          refine lv_dup hx hb dX8_addEvent_79 rfl ?_
          refine va_get (D := (dC, dI)) (ci := 8) (v := .int (iI nE)) (C := RX8) (T := TX8) (N := 36) hx hb hts hinX8 hown hK.1 hP 0 rfl rfl 14 (by decide) (hts _ (List.mem_of_getElem? (i := 2) rfl)) (fun _ h9 => h9) rfl dX8_addEvent_80 ?_
          refine lv_iconst (v := iI 1) hx hb dX8_addEvent_83 rfl ?_
          refine zi_add hx hb dX8_addEvent_84 ?_
          refine va_put (D := (dC, dI)) (ci := 8) (v := .int (iI (nE + 1))) (ty := .int) (C := RX8) (T := TX8) (N := 36) hx hb hts hinX8 tyX8 tyX8_ok nmX8 hown hK.1 hP hD hS 0 rfl rfl 14 (by decide) (hts _ (List.mem_of_getElem? (i := 2) rfl)) (fun _ h9 => h9) rfl (by decide +kernel) rfl rfl (Nat.le_of_ble_eq_true rfl) dX8_addEvent_85 (fun H locs hP hD hS => ?_)
          have hP : va_P (dC, dI) vwCl (wM cI cJ cZ q pw co la vo nC par div dee use mrun nT due lat wk (nE + 1) (uZ tk nE x1) (uZ ld nE x2) rule now st asl idn idl sp pe tin slp late srv hv av bd sh mL mB (1 - 1)) H := hP
          have hD : va_D A (wM cI cJ cZ q pw co la vo nC par div dee use mrun nT due lat wk (nE + 1) (uZ tk nE x1) (uZ ld nE x2) rule now st asl idn idl sp pe tin slp late srv hv av bd sh mL mB (1 - 1)) := hD
          refine lv_aload_n hx hb dX8_addEvent_88 rfl (lv_at hl 0 rfl) ?_
          refine va_get (D := (dC, dI)) (ci := 8) (v := .int (iI (nE + 1))) (C := RX8) (T := TX8) (N := 36) hx hb hts hinX8 hown hK.1 hP 0 rfl rfl 14 (by decide) (hts _ (List.mem_of_getElem? (i := 2) rfl)) (fun _ h9 => h9) rfl dX8_addEvent_89 ?_
          subst hQ
          exact zret_i (W1 := fun u9 : Int × Int × (Int → Int) × (Int → Int) × Int => wM cI cJ cZ q pw co la vo nC par div dee use mrun nT due lat wk (u9.2.2.2.2) (u9.2.2.1) (u9.2.2.2.1) rule now st asl idn idl sp pe tin slp late srv hv av bd sh mL mB (u9.2.1)) (nE + 1, 1 - 1, uZ tk nE x1, uZ ld nE x2, nE + 1) hx hb hr hP hD hS hlocks dX8_addEvent_92 (by first | (exact ⟨rfl, Or.inl (⟨by omega, by omega, by (first | rfl | (rw [b2i_t (by omega)]; done) | (rw [b2i_f (by omega)]; done) | (rw [b2i_t (by omega)]; rfl) | (rw [b2i_f (by omega)]; rfl)), by first | rfl | omega, by rfl, by rfl, by rfl⟩)⟩) | (exact ⟨rfl, Or.inr (Or.inl (⟨by omega, by (first | rfl | (rw [b2i_t (by omega)]; done) | (rw [b2i_f (by omega)]; done) | (rw [b2i_t (by omega)]; rfl) | (rw [b2i_f (by omega)]; rfl)), rfl, rfl, rfl⟩))⟩) | (exact ⟨rfl, Or.inr (Or.inr (⟨by omega, by omega, by (first | rfl | (rw [b2i_t (by omega)]; done) | (rw [b2i_f (by omega)]; done) | (rw [b2i_t (by omega)]; rfl) | (rw [b2i_f (by omega)]; rfl)), rfl, rfl, rfl⟩))⟩))
        · skip
          refine lv_aload_n hx hb dX8_addEvent_52 rfl (lv_at hl 0 rfl) ?_
          refine lv_iconst (v := iI 2) hx hb dX8_addEvent_53 rfl ?_
          refine zc_i (va_runV (As := [.int (iI 2)]) (rest := []) ⟨hx, hb, hml, hown, hts⟩ (kX8_fails l dC dI cI cJ cZ q pw co la vo nC par div dee use mrun nT due lat wk nE tk ld rule now st asl idn idl sp pe tin slp late srv hv av bd sh mL mB (1 - 1) 2 H.size) (cwV 1 hts gX8_addEvent_X8_fails rfl rfl rfl (by decide +kernel) ⟨Nat.le_of_ble_eq_true rfl, Nat.le_of_ble_eq_true rfl⟩) (zpV hK hP hD [0, 1, 2, 3, 4, 5, 6, 7, 8, 9, 10, 11, 12, 13, 14, 15, 16, 17, 18, 19] rfl rfl 0 rfl rfl) rfl rfl hl.1 rfl (lv_room (Nat.le_of_ble_eq_true rfl)) dX8_addEvent_54 ⟨Nat.le_of_ble_eq_true rfl, Nat.le_of_ble_eq_true rfl⟩) hP hD hS hA [0, 1, 2, 3, 4, 5, 6, 7, 8, 9, 10, 11, 12, 13, 14, 15, 16, 17, 18, 19] [] rfl rfl rfl (by decide) (fun v_18 u_17 H locs r_16 hP hD hS => ?_)
          refine ze_i r_16 ?_
          have hP : va_P (dC, dI) vwCl (wM cI cJ cZ q pw co la vo nC par div dee use mrun nT due lat wk nE tk ld rule now st asl idn idl sp pe tin slp late srv hv av bd sh mL mB 2) H := hP
          have hD : va_D A (wM cI cJ cZ q pw co la vo nC par div dee use mrun nT due lat wk nE tk ld rule now st asl idn idl sp pe tin slp late srv hv av bd sh mL mB 2) := hD
          subst hQ
          exact zret_i (W1 := fun u9 : Int × Int × (Int → Int) × (Int → Int) × Int => wM cI cJ cZ q pw co la vo nC par div dee use mrun nT due lat wk (u9.2.2.2.2) (u9.2.2.1) (u9.2.2.2.1) rule now st asl idn idl sp pe tin slp late srv hv av bd sh mL mB (u9.2.1)) (0, 2, tk, ld, nE) hx hb hr hP hD hS hlocks dX8_addEvent_57 (by first | (exact ⟨rfl, Or.inl (⟨by omega, by omega, by (first | rfl | (rw [b2i_t (by omega)]; done) | (rw [b2i_f (by omega)]; done) | (rw [b2i_t (by omega)]; rfl) | (rw [b2i_f (by omega)]; rfl)), by first | rfl | omega, by rfl, by rfl, by rfl⟩)⟩) | (exact ⟨rfl, Or.inr (Or.inl (⟨by omega, by (first | rfl | (rw [b2i_t (by omega)]; done) | (rw [b2i_f (by omega)]; done) | (rw [b2i_t (by omega)]; rfl) | (rw [b2i_f (by omega)]; rfl)), rfl, rfl, rfl⟩))⟩) | (exact ⟨rfl, Or.inr (Or.inr (⟨by omega, by omega, by (first | rfl | (rw [b2i_t (by omega)]; done) | (rw [b2i_f (by omega)]; done) | (rw [b2i_t (by omega)]; rfl) | (rw [b2i_f (by omega)]; rfl)), rfl, rfl, rfl⟩))⟩))
      · skip
        exact absurd c_14 (by decide)
def rmX8_setRule : Room := { frames := 2, cells := 0, slots := 0, locals := 42 }
set_option maxRecDepth 100000 in
set_option maxHeartbeats 4000000 in
theorem kX8_setRule (l : Launch) (dC : Nat → ClassId) (dI : Nat → Nat → Nat) (cI cJ cZ : ClassId) (q : Nat → Nat)  (pw : Int → Int) (co : Int → Int) (la : Int → Int) (vo : Int → Int) (nC : Int) (par : Int → Int) (div : Int → Int) (dee : Int → Int) (use : Int → Int) (mrun : Int → Int) (nT : Int) (due : Int → Int) (lat : Int → Int) (wk : Int → Int) (nE : Int) (tk : Int → Int) (ld : Int → Int) (rule : Int) (now : Int) (st : Int) (asl : Int) (idn : Int) (idl : Int → Int) (sp : Int) (pe : Int) (tin : Int → Int) (slp : Int) (late : Int) (srv : Int) (hv : Int → Int) (av : Int) (bd : Int) (sh : Int) (mL : Int → Int) (mB : Int → Int) (thr : Int) (x1 : Int) (hx1 : zR x1) (hst : 0 ≤ st ∧ st ≤ 3) (hpw : rgZ pw 4 1000) (hco : rgZ co 4 10000) (hla : rgZ la 4 100) (hidn : 0 ≤ idn ∧ idn ≤ 2000000) (hidl : rgZ idl 4 1000000) : zMi l yX8_setRule wsX8_setRule rmX8_setRule (dC, dI) (zT cI cJ cZ) (wM cI cJ cZ q pw co la vo nC par div dee use mrun nT due lat wk nE tk ld rule now st asl idn idl sp pe tin slp late srv hv av bd sh mL mB thr) [.ref (q 0), .int (iI x1)] (fun (r9 : Int) (u9 : Int × Int × Int × Int × Int × (Int → Int) × Int × Int) => r9 = (u9.1) ∧ (((0 ≤ x1 ∧ x1 ≤ 2) ∧ (u9.2.1) = 0 ∧ (u9.1) = rule ∧ ((u9.2.2.1), (u9.2.2.2.1), (u9.2.2.2.2.1), (u9.2.2.2.2.2.1), (u9.2.2.2.2.2.2.1)) = scF pw la st asl now sp pe idl idn ∧ (u9.2.2.2.2.2.2.2) = x1) ∨ (¬ (0 ≤ x1 ∧ x1 ≤ 2) ∧ (u9.2.1) = 1 ∧ (u9.2.2.1) = st ∧ (u9.2.2.2.1) = sp ∧ (u9.2.2.2.2.1) = pe ∧ (u9.2.2.2.2.2.1) = idl ∧ (u9.2.2.2.2.2.2.1) = idn ∧ (u9.2.2.2.2.2.2.2) = rule))) (fun u9 : Int × Int × Int × Int × Int × (Int → Int) × Int × Int => wM cI cJ cZ q pw co la vo nC par div dee use mrun nT due lat wk nE tk ld (u9.2.2.2.2.2.2.2) now (u9.2.2.1) asl (u9.2.2.2.2.2.2.1) (u9.2.2.2.2.2.1) (u9.2.2.2.1) (u9.2.2.2.2.1) tin slp late srv hv av bd sh mL mB (u9.2.1)) 0 0 := by
  refine zent_i (cc := cX8_setRule) (maxL := 3) (ret := (some .int)) (by decide +kernel) rfl (Nat.le_of_ble_eq_true rfl) ?_
  intro p e s m below meth c A ls hE hP hK hA hD hS hl
  obtain ⟨hx, hb, hr, hml, hown, hts, hlocks, hmn⟩ := hE
  have hinX8 : ∀ w ∈ u_ws RX8 TX8 36, w ∈ wsX8_setRule := by decide +kernel
  have hl : lv_has ls 3 [(0, .ref (q 0)), (1, .int (iI x1))] := hl
  refine z_gen (fun Q hQ => ?_)
  refine lv_aload_n hx hb dX8_setRule_0 rfl (lv_at hl 0 rfl) ?_
  refine lv_iload_n hx hb dX8_setRule_1 rfl (lv_at hl 1 rfl) ?_
  refine lv_iconst (v := iI 0) hx hb dX8_setRule_2 rfl ?_
  refine lv_iconst (v := iI 2) hx hb dX8_setRule_3 rfl ?_
  refine zc_pi (va_runS (As := [.int (iI x1), .int (iI 0), .int (iI 2)]) (rest := [.ref (q 0)]) ⟨hx, hb, hml, hown, hts⟩ (kX8_in l dC dI cI cJ cZ x1 0 2 (by first | assumption | omega | exact b2i_01 _) (by first | assumption | omega | exact b2i_01 _) (by first | assumption | omega | exact b2i_01 _)) (va_cwS 3 hts gX8_setRule_X8_in rfl rfl rfl (by decide +kernel) ⟨Nat.le_of_ble_eq_true rfl, Nat.le_of_ble_eq_true rfl⟩) (zqS hK hP [] rfl) rfl rfl hl.1 rfl (lv_room (Nat.le_of_ble_eq_true rfl)) dX8_setRule_4 ⟨Nat.le_of_ble_eq_true rfl, Nat.le_of_ble_eq_true rfl⟩) ?_
  refine zc_i (va_runV (As := [.int (iI (b2i (0 ≤ x1 ∧ x1 ≤ 2)))]) (rest := []) ⟨hx, hb, hml, hown, hts⟩ (kX8_asks l dC dI cI cJ cZ q pw co la vo nC par div dee use mrun nT due lat wk nE tk ld rule now st asl idn idl sp pe tin slp late srv hv av bd sh mL mB thr (b2i (0 ≤ x1 ∧ x1 ≤ 2)) (by first | assumption | omega | exact b2i_01 _) s.heap.size) (cwV 1 hts gX8_setRule_X8_asks rfl rfl rfl (by decide +kernel) ⟨Nat.le_of_ble_eq_true rfl, Nat.le_of_ble_eq_true rfl⟩) (zpV hK hP hD [0, 1, 2, 3, 4, 5, 6, 7, 8, 9, 10, 11, 12, 13, 14, 15, 16, 17, 18, 19] rfl rfl 0 rfl rfl) rfl rfl hl.1 rfl (lv_room (Nat.le_of_ble_eq_true rfl)) dX8_setRule_7 ⟨Nat.le_of_ble_eq_true rfl, Nat.le_of_ble_eq_true rfl⟩) hP hD hS hA [0, 1, 2, 3, 4, 5, 6, 7, 8, 9, 10, 11, 12, 13, 14, 15, 16, 17, 18, 19] [] rfl rfl rfl (by decide) (fun v_3 u_2 H locs r_1 hP hD hS => ?_)
  refine ze_i r_1 ?_
  have hP : va_P (dC, dI) vwCl (wM cI cJ cZ q pw co la vo nC par div dee use mrun nT due lat wk nE tk ld rule now st asl idn idl sp pe tin slp late srv hv av bd sh mL mB (1 - (b2i (0 ≤ x1 ∧ x1 ≤ 2)))) H := hP
  have hD : va_D A (wM cI cJ cZ q pw co la vo nC par div dee use mrun nT due lat wk nE tk ld rule now st asl idn idl sp pe tin slp late srv hv av bd sh mL mB (1 - (b2i (0 ≤ x1 ∧ x1 ≤ 2)))) := hD
  refine zb_fne (tgt := 15) hx hb dX8_setRule_10 (by decide) (fun c_4 => ?_) (fun c_4 => ?_)
  · skip
    refine lv_aload_n hx hb dX8_setRule_15 rfl (lv_at hl 0 rfl) ?_
    refine zc_v (va_runV (As := []) (rest := []) ⟨hx, hb, hml, hown, hts⟩ (kX8_stirs l dC dI cI cJ cZ q pw co la vo nC par div dee use mrun nT due lat wk nE tk ld rule now st asl idn idl sp pe tin slp late srv hv av bd sh mL mB (1 - (b2i (0 ≤ x1 ∧ x1 ≤ 2))) (by first | assumption | omega | exact b2i_01 _) (by first | assumption | omega | exact b2i_01 _) (by first | assumption | omega | exact b2i_01 _) (by first | assumption | omega | exact b2i_01 _) (by first | assumption | omega | exact b2i_01 _) (by first | assumption | omega | exact b2i_01 _) H.size) (cwV 0 hts gX8_setRule_X8_stirs rfl rfl rfl (by decide +kernel) ⟨Nat.le_of_ble_eq_true rfl, Nat.le_of_ble_eq_true rfl⟩) (zpV hK hP hD [0, 1, 2, 3, 4, 5, 6, 7, 8, 9, 10, 11, 12, 13, 14, 15, 16, 17, 18, 19] rfl rfl 0 rfl rfl) rfl rfl hl.1 rfl (lv_room (Nat.le_of_ble_eq_true rfl)) dX8_setRule_16 ⟨Nat.le_of_ble_eq_true rfl, Nat.le_of_ble_eq_true rfl⟩) hP hD hS hA [0, 1, 2, 3, 4, 5, 6, 7, 8, 9, 10, 11, 12, 13, 14, 15, 16, 17, 18, 19] [] rfl rfl rfl (by decide) (fun u_6 H locs r_5 hP hD hS => ?_)
    obtain ⟨stx_8, spx_9, pex_10, idlx_11, idnx_12⟩ := u_6
    have r_5 : (stx_8, spx_9, pex_10, idlx_11, idnx_12) = scF pw la st asl now sp pe idl idn := r_5
    have hP : va_P (dC, dI) vwCl (wM cI cJ cZ q pw co la vo nC par div dee use mrun nT due lat wk nE tk ld rule now stx_8 asl idnx_12 idlx_11 spx_9 pex_10 tin slp late srv hv av bd sh mL mB (1 - (b2i (0 ≤ x1 ∧ x1 ≤ 2)))) H := hP
    have hD : va_D A (wM cI cJ cZ q pw co la vo nC par div dee use mrun nT due lat wk nE tk ld rule now stx_8 asl idnx_12 idlx_11 spx_9 pex_10 tin slp late srv hv av bd sh mL mB (1 - (b2i (0 ≤ x1 ∧ x1 ≤ 2)))) := hD
    have hsc9 := r_5
    refine lv_aload_n hx hb dX8_setRule_19 rfl (lv_at hl 0 rfl) ?_
    refine va_get (D := (dC, dI)) (ci := 8) (v := .int (iI rule)) (C := RX8) (T := TX8) (N := 36) hx hb hts hinX8 hown hK.1 hP 0 rfl rfl 17 (by decide) (hts _ (List.mem_of_getElem? (i := 1) rfl)) (fun _ h9 => h9) rfl dX8_setRule_20 ?_
    refine lv_istore_n (lv' := [(2, .int (iI rule)), (0, .ref (q 0)), (1, .int (iI x1))]) hx hb dX8_setRule_23 rfl hl (by decide) rfl (fun ls hl => ?_)
    refine lv_aload_n hx hb dX8_setRule_24 rfl (lv_at hl 1 rfl) ?_
    refine lv_iload_n hx hb dX8_setRule_25 rfl (lv_at hl 2 rfl) ?_
    refine va_put (D := (dC, dI)) (ci := 8) (v := .int (iI x1)) (ty := .int) (C := RX8) (T := TX8) (N := 36) hx hb hts hinX8 tyX8 tyX8_ok nmX8 hown hK.1 hP hD hS 0 rfl rfl 17 (by decide) (hts _ (List.mem_of_getElem? (i := 1) rfl)) (fun _ h9 => h9) rfl (by decide +kernel) rfl rfl (Nat.le_of_ble_eq_true rfl) dX8_setRule_26 (fun H locs hP hD hS => ?_)
    have hP : va_P (dC, dI) vwCl (wM cI cJ cZ q pw co la vo nC par div dee use mrun nT due lat wk nE tk ld x1 now stx_8 asl idnx_12 idlx_11 spx_9 pex_10 tin slp late srv hv av bd sh mL mB (1 - (b2i (0 ≤ x1 ∧ x1 ≤ 2)))) H := hP
    have hD : va_D A (wM cI cJ cZ q pw co la vo nC par div dee use mrun nT due lat wk nE tk ld x1 now stx_8 asl idnx_12 idlx_11 spx_9 pex_10 tin slp late srv hv av bd sh mL mB (1 - (b2i (0 ≤ x1 ∧ x1 ≤ 2)))) := hD
    refine lv_iload_n hx hb dX8_setRule_29 rfl (lv_at hl 0 rfl) ?_
    subst hQ
    exact zret_i (W1 := fun u9 : Int × Int × Int × Int × Int × (Int → Int) × Int × Int => wM cI cJ cZ q pw co la vo nC par div dee use mrun nT due lat wk nE tk ld (u9.2.2.2.2.2.2.2) now (u9.2.2.1) asl (u9.2.2.2.2.2.2.1) (u9.2.2.2.2.2.1) (u9.2.2.2.1) (u9.2.2.2.2.1) tin slp late srv hv av bd sh mL mB (u9.2.1)) (rule, 1 - (b2i (0 ≤ x1 ∧ x1 ≤ 2)), stx_8, spx_9, pex_10, idlx_11, idnx_12, x1) hx hb hr hP hD hS hlocks dX8_setRule_30 (by first | (exact ⟨rfl, Or.inl (⟨by omega, by (first | rfl | (rw [b2i_t (by omega)]; done) | (rw [b2i_f (by omega)]; done) | (rw [b2i_t (by omega)]; rfl) | (rw [b2i_f (by omega)]; rfl)), by first | rfl | omega, by exact hsc9, by rfl⟩)⟩) | (exact ⟨rfl, Or.inr (⟨by omega, by (first | rfl | (rw [b2i_t (by omega)]; done) | (rw [b2i_f (by omega)]; done) | (rw [b2i_t (by omega)]; rfl) | (rw [b2i_f (by omega)]; rfl)), rfl, rfl, rfl, rfl, rfl, rfl⟩)⟩))
  · skip
    refine lv_iconst (v := iI 0) hx hb dX8_setRule_13 rfl ?_
    subst hQ
    exact zret_i (W1 := fun u9 : Int × Int × Int × Int × Int × (Int → Int) × Int × Int => wM cI cJ cZ q pw co la vo nC par div dee use mrun nT due lat wk nE tk ld (u9.2.2.2.2.2.2.2) now (u9.2.2.1) asl (u9.2.2.2.2.2.2.1) (u9.2.2.2.2.2.1) (u9.2.2.2.1) (u9.2.2.2.2.1) tin slp late srv hv av bd sh mL mB (u9.2.1)) (0, 1 - (b2i (0 ≤ x1 ∧ x1 ≤ 2)), st, sp, pe, idl, idn, rule) hx hb hr hP hD hS hlocks dX8_setRule_14 (by first | (exact ⟨rfl, Or.inl (⟨by omega, by (first | rfl | (rw [b2i_t (by omega)]; done) | (rw [b2i_f (by omega)]; done) | (rw [b2i_t (by omega)]; rfl) | (rw [b2i_f (by omega)]; rfl)), by first | rfl | omega, by exact hsc9, by rfl⟩)⟩) | (exact ⟨rfl, Or.inr (⟨by omega, by (first | rfl | (rw [b2i_t (by omega)]; done) | (rw [b2i_f (by omega)]; done) | (rw [b2i_t (by omega)]; rfl) | (rw [b2i_f (by omega)]; rfl)), rfl, rfl, rfl, rfl, rfl, rfl⟩)⟩))
def rmX8_ticksIn : Room := { frames := 1, cells := 0, slots := 0, locals := 22 }
set_option maxRecDepth 100000 in
set_option maxHeartbeats 4000000 in
theorem kX8_ticksIn (l : Launch) (dC : Nat → ClassId) (dI : Nat → Nat → Nat) (cI cJ cZ : ClassId) (q : Nat → Nat)  (pw : Int → Int) (co : Int → Int) (la : Int → Int) (vo : Int → Int) (nC : Int) (par : Int → Int) (div : Int → Int) (dee : Int → Int) (use : Int → Int) (mrun : Int → Int) (nT : Int) (due : Int → Int) (lat : Int → Int) (wk : Int → Int) (nE : Int) (tk : Int → Int) (ld : Int → Int) (rule : Int) (now : Int) (st : Int) (asl : Int) (idn : Int) (idl : Int → Int) (sp : Int) (pe : Int) (tin : Int → Int) (slp : Int) (late : Int) (srv : Int) (hv : Int → Int) (av : Int) (bd : Int) (sh : Int) (mL : Int → Int) (mB : Int → Int) (thr : Int) (x1 : Int) (hx1 : zR x1) : zMi l yX8_ticksIn wsX8_ticksIn rmX8_ticksIn (dC, dI) (zT cI cJ cZ) (wM cI cJ cZ q pw co la vo nC par div dee use mrun nT due lat wk nE tk ld rule now st asl idn idl sp pe tin slp late srv hv av bd sh mL mB thr) [.ref (q 0), .int (iI x1)] (fun (r9 : Int) (u9 : Int × Int) => r9 = (u9.1) ∧ (((0 ≤ x1 ∧ x1 ≤ 3) ∧ (u9.2) = 0 ∧ (u9.1) = tin x1) ∨ (¬ (0 ≤ x1 ∧ x1 ≤ 3) ∧ (u9.2) = 1))) (fun u9 : Int × Int => wM cI cJ cZ q pw co la vo nC par div dee use mrun nT due lat wk nE tk ld rule now st asl idn idl sp pe tin slp late srv hv av bd sh mL mB (u9.2)) 0 0 := by
  refine zent_i (cc := cX8_ticksIn) (maxL := 2) (ret := (some .int)) (by decide +kernel) rfl (Nat.le_of_ble_eq_true rfl) ?_
  intro p e s m below meth c A ls hE hP hK hA hD hS hl
  obtain ⟨hx, hb, hr, hml, hown, hts, hlocks, hmn⟩ := hE
  have hinX8 : ∀ w ∈ u_ws RX8 TX8 36, w ∈ wsX8_ticksIn := by decide +kernel
  have hl : lv_has ls 2 [(0, .ref (q 0)), (1, .int (iI x1))] := hl
  refine z_gen (fun Q hQ => ?_)
  refine lv_aload_n hx hb dX8_ticksIn_0 rfl (lv_at hl 0 rfl) ?_
  refine lv_iload_n hx hb dX8_ticksIn_1 rfl (lv_at hl 1 rfl) ?_
  refine lv_iconst (v := iI 0) hx hb dX8_ticksIn_2 rfl ?_
  refine lv_iconst (v := iI 3) hx hb dX8_ticksIn_3 rfl ?_
  refine zc_pi (va_runS (As := [.int (iI x1), .int (iI 0), .int (iI 3)]) (rest := [.ref (q 0)]) ⟨hx, hb, hml, hown, hts⟩ (kX8_in l dC dI cI cJ cZ x1 0 3 (by first | assumption | omega | exact b2i_01 _) (by first | assumption | omega | exact b2i_01 _) (by first | assumption | omega | exact b2i_01 _)) (va_cwS 3 hts gX8_ticksIn_X8_in rfl rfl rfl (by decide +kernel) ⟨Nat.le_of_ble_eq_true rfl, Nat.le_of_ble_eq_true rfl⟩) (zqS hK hP [] rfl) rfl rfl hl.1 rfl (lv_room (Nat.le_of_ble_eq_true rfl)) dX8_ticksIn_4 ⟨Nat.le_of_ble_eq_true rfl, Nat.le_of_ble_eq_true rfl⟩) ?_
  refine zc_i (va_runV (As := [.int (iI (b2i (0 ≤ x1 ∧ x1 ≤ 3)))]) (rest := []) ⟨hx, hb, hml, hown, hts⟩ (kX8_asks l dC dI cI cJ cZ q pw co la vo nC par div dee use mrun nT due lat wk nE tk ld rule now st asl idn idl sp pe tin slp late srv hv av bd sh mL mB thr (b2i (0 ≤ x1 ∧ x1 ≤ 3)) (by first | assumption | omega | exact b2i_01 _) s.heap.size) (cwV 1 hts gX8_ticksIn_X8_asks rfl rfl rfl (by decide +kernel) ⟨Nat.le_of_ble_eq_true rfl, Nat.le_of_ble_eq_true rfl⟩) (zpV hK hP hD [0, 1, 2, 3, 4, 5, 6, 7, 8, 9, 10, 11, 12, 13, 14, 15, 16, 17, 18, 19] rfl rfl 0 rfl rfl) rfl rfl hl.1 rfl (lv_room (Nat.le_of_ble_eq_true rfl)) dX8_ticksIn_7 ⟨Nat.le_of_ble_eq_true rfl, Nat.le_of_ble_eq_true rfl⟩) hP hD hS hA [0, 1, 2, 3, 4, 5, 6, 7, 8, 9, 10, 11, 12, 13, 14, 15, 16, 17, 18, 19] [] rfl rfl rfl (by decide) (fun v_3 u_2 H locs r_1 hP hD hS => ?_)
  refine ze_i r_1 ?_
  have hP : va_P (dC, dI) vwCl (wM cI cJ cZ q pw co la vo nC par div dee use mrun nT due lat wk nE tk ld rule now st asl idn idl sp pe tin slp late srv hv av bd sh mL mB (1 - (b2i (0 ≤ x1 ∧ x1 ≤ 3)))) H := hP
  have hD : va_D A (wM cI cJ cZ q pw co la vo nC par div dee use mrun nT due lat wk nE tk ld rule now st asl idn idl sp pe tin slp late srv hv av bd sh mL mB (1 - (b2i (0 ≤ x1 ∧ x1 ≤ 3)))) := hD
  refine zb_feq (tgt := 22) hx hb dX8_ticksIn_10 (by decide) (fun c_4 => ?_) (fun c_4 => ?_)
  · skip
    refine lv_iconst (v := iI 0) hx hb dX8_ticksIn_22 rfl ?_
    subst hQ
    exact zret_i (W1 := fun u9 : Int × Int => wM cI cJ cZ q pw co la vo nC par div dee use mrun nT due lat wk nE tk ld rule now st asl idn idl sp pe tin slp late srv hv av bd sh mL mB (u9.2)) (0, 1 - (b2i (0 ≤ x1 ∧ x1 ≤ 3))) hx hb hr hP hD hS hlocks dX8_ticksIn_23 (by first | (exact ⟨rfl, Or.inl (⟨by omega, by (first | rfl | (rw [b2i_t (by omega)]; done) | (rw [b2i_f (by omega)]; done) | (rw [b2i_t (by omega)]; rfl) | (rw [b2i_f (by omega)]; rfl)), by first | rfl | omega⟩)⟩) | (exact ⟨rfl, Or.inr (⟨by omega, by (first | rfl | (rw [b2i_t (by omega)]; done) | (rw [b2i_f (by omega)]; done) | (rw [b2i_t (by omega)]; rfl) | (rw [b2i_f (by omega)]; rfl))⟩)⟩))
  · skip
    refine lv_aload_n hx hb dX8_ticksIn_13 rfl (lv_at hl 0 rfl) ?_
    refine va_get (D := (dC, dI)) (ci := 8) (v := .ref (q 16)) (C := RX8) (T := TX8) (N := 36) hx hb hts hinX8 hown hK.1 hP 0 rfl rfl 25 (by decide) (hts _ (List.mem_of_getElem? (i := 1) rfl)) (fun _ h9 => h9) rfl dX8_ticksIn_14 ?_
    refine lv_iload_n hx hb dX8_ticksIn_17 rfl (lv_at hl 1 rfl) ?_
    refine za_ld hx hb hK hP 16 0 rfl rfl (by omega) (by omega) dX8_ticksIn_18 ?_
    refine lv_goto (tgt := 23) hx hb dX8_ticksIn_19 (by decide) ?_
    subst hQ
    exact zret_i (W1 := fun u9 : Int × Int => wM cI cJ cZ q pw co la vo nC par div dee use mrun nT due lat wk nE tk ld rule now st asl idn idl sp pe tin slp late srv hv av bd sh mL mB (u9.2)) (tin x1, 1 - (b2i (0 ≤ x1 ∧ x1 ≤ 3))) hx hb hr hP hD hS hlocks dX8_ticksIn_23 (by first | (exact ⟨rfl, Or.inl (⟨by omega, by (first | rfl | (rw [b2i_t (by omega)]; done) | (rw [b2i_f (by omega)]; done) | (rw [b2i_t (by omega)]; rfl) | (rw [b2i_f (by omega)]; rfl)), by first | rfl | omega⟩)⟩) | (exact ⟨rfl, Or.inr (⟨by omega, by (first | rfl | (rw [b2i_t (by omega)]; done) | (rw [b2i_f (by omega)]; done) | (rw [b2i_t (by omega)]; rfl) | (rw [b2i_f (by omega)]; rfl))⟩)⟩))
def rmX8_setHarvest : Room := { frames := 1, cells := 0, slots := 0, locals := 22 }
set_option maxRecDepth 100000 in
set_option maxHeartbeats 4000000 in
theorem kX8_setHarvest (l : Launch) (dC : Nat → ClassId) (dI : Nat → Nat → Nat) (cI cJ cZ : ClassId) (q : Nat → Nat)  (pw : Int → Int) (co : Int → Int) (la : Int → Int) (vo : Int → Int) (nC : Int) (par : Int → Int) (div : Int → Int) (dee : Int → Int) (use : Int → Int) (mrun : Int → Int) (nT : Int) (due : Int → Int) (lat : Int → Int) (wk : Int → Int) (nE : Int) (tk : Int → Int) (ld : Int → Int) (rule : Int) (now : Int) (st : Int) (asl : Int) (idn : Int) (idl : Int → Int) (sp : Int) (pe : Int) (tin : Int → Int) (slp : Int) (late : Int) (srv : Int) (hv : Int → Int) (av : Int) (bd : Int) (sh : Int) (mL : Int → Int) (mB : Int → Int) (thr : Int) (x1 x2 : Int) (hx1 : zR x1) (hx2 : zR x2) : zMi l yX8_setHarvest wsX8_setHarvest rmX8_setHarvest (dC, dI) (zT cI cJ cZ) (wM cI cJ cZ q pw co la vo nC par div dee use mrun nT due lat wk nE tk ld rule now st asl idn idl sp pe tin slp late srv hv av bd sh mL mB thr) [.ref (q 0), .int (iI x1), .int (iI x2)] (fun (r9 : Int) (u9 : Int × Int × (Int → Int)) => r9 = (u9.1) ∧ ((((0 ≤ x1 ∧ x1 ≤ 23) ∧ (0 ≤ x2 ∧ x2 ≤ 1000)) ∧ (u9.2.1) = 0 ∧ (u9.1) = hv x1 ∧ (u9.2.2) = uZ hv x1 x2) ∨ (¬ ((0 ≤ x1 ∧ x1 ≤ 23) ∧ (0 ≤ x2 ∧ x2 ≤ 1000)) ∧ (u9.2.1) = 1 ∧ (u9.2.2) = hv))) (fun u9 : Int × Int × (Int → Int) => wM cI cJ cZ q pw co la vo nC par div dee use mrun nT due lat wk nE tk ld rule now st asl idn idl sp pe tin slp late srv (u9.2.2) av bd sh mL mB (u9.2.1)) 0 0 := by
  refine zent_i (cc := cX8_setHarvest) (maxL := 4) (ret := (some .int)) (by decide +kernel) rfl (Nat.le_of_ble_eq_true rfl) ?_
  intro p e s m below meth c A ls hE hP hK hA hD hS hl
  obtain ⟨hx, hb, hr, hml, hown, hts, hlocks, hmn⟩ := hE
  have hinX8 : ∀ w ∈ u_ws RX8 TX8 36, w ∈ wsX8_setHarvest := by decide +kernel
  have hl : lv_has ls 4 [(0, .ref (q 0)), (1, .int (iI x1)), (2, .int (iI x2))] := hl
  refine z_gen (fun Q hQ => ?_)
  refine lv_aload_n hx hb dX8_setHarvest_0 rfl (lv_at hl 0 rfl) ?_
  refine lv_iload_n hx hb dX8_setHarvest_1 rfl (lv_at hl 1 rfl) ?_
  refine lv_iconst (v := iI 0) hx hb dX8_setHarvest_2 rfl ?_
  refine lv_bipush (v := iI 23) hx hb dX8_setHarvest_3 (by decide) ?_
  refine zc_pi (va_runS (As := [.int (iI x1), .int (iI 0), .int (iI 23)]) (rest := [.ref (q 0)]) ⟨hx, hb, hml, hown, hts⟩ (kX8_in l dC dI cI cJ cZ x1 0 23 (by first | assumption | omega | exact b2i_01 _) (by first | assumption | omega | exact b2i_01 _) (by first | assumption | omega | exact b2i_01 _)) (va_cwS 3 hts gX8_setHarvest_X8_in rfl rfl rfl (by decide +kernel) ⟨Nat.le_of_ble_eq_true rfl, Nat.le_of_ble_eq_true rfl⟩) (zqS hK hP [] rfl) rfl rfl hl.1 rfl (lv_room (Nat.le_of_ble_eq_true rfl)) dX8_setHarvest_5 ⟨Nat.le_of_ble_eq_true rfl, Nat.le_of_ble_eq_true rfl⟩) ?_
  refine zb_feq (tgt := 26) hx hb dX8_setHarvest_8 (by decide) (fun c_1 => ?_) (fun c_1 => ?_)
  · skip
    refine lv_iconst (v := iI 0) hx hb dX8_setHarvest_26 rfl ?_
    refine zc_i (va_runV (As := [.int (iI 0)]) (rest := []) ⟨hx, hb, hml, hown, hts⟩ (kX8_asks l dC dI cI cJ cZ q pw co la vo nC par div dee use mrun nT due lat wk nE tk ld rule now st asl idn idl sp pe tin slp late srv hv av bd sh mL mB thr 0 (by first | assumption | omega | exact b2i_01 _) s.heap.size) (cwV 1 hts gX8_setHarvest_X8_asks rfl rfl rfl (by decide +kernel) ⟨Nat.le_of_ble_eq_true rfl, Nat.le_of_ble_eq_true rfl⟩) (zpV hK hP hD [0, 1, 2, 3, 4, 5, 6, 7, 8, 9, 10, 11, 12, 13, 14, 15, 16, 17, 18, 19] rfl rfl 0 rfl rfl) rfl rfl hl.1 rfl (lv_room (Nat.le_of_ble_eq_true rfl)) dX8_setHarvest_27 ⟨Nat.le_of_ble_eq_true rfl, Nat.le_of_ble_eq_true rfl⟩) hP hD hS hA [0, 1, 2, 3, 4, 5, 6, 7, 8, 9, 10, 11, 12, 13, 14, 15, 16, 17, 18, 19] [] rfl rfl rfl (by decide) (fun v_4 u_3 H locs r_2 hP hD hS => ?_)
    refine ze_i r_2 ?_
    have hP : va_P (dC, dI) vwCl (wM cI cJ cZ q pw co la vo nC par div dee use mrun nT due lat wk nE tk ld rule now st asl idn idl sp pe tin slp late srv hv av bd sh mL mB (1 - 0)) H := hP
    have hD : va_D A (wM cI cJ cZ q pw co la vo nC par div dee use mrun nT due lat wk nE tk ld rule now st asl idn idl sp pe tin slp late srv hv av bd sh mL mB (1 - 0)) := hD
    refine zi_fne (tgt := 35) hx hb (by decide) dX8_setHarvest_30 (by decide) (fun c_5 => ?_) (fun c_5 => ?_)
    · skip
      exact absurd c_5 (by decide)
    · skip
      refine lv_iconst (v := iI 0) hx hb dX8_setHarvest_33 rfl ?_
      subst hQ
      exact zret_i (W1 := fun u9 : Int × Int × (Int → Int) => wM cI cJ cZ q pw co la vo nC par div dee use mrun nT due lat wk nE tk ld rule now st asl idn idl sp pe tin slp late srv (u9.2.2) av bd sh mL mB (u9.2.1)) (0, 1 - 0, hv) hx hb hr hP hD hS hlocks dX8_setHarvest_34 (by first | (exact ⟨rfl, Or.inl (⟨by omega, by (first | rfl | (rw [b2i_t (by omega)]; done) | (rw [b2i_f (by omega)]; done) | (rw [b2i_t (by omega)]; rfl) | (rw [b2i_f (by omega)]; rfl)), by first | rfl | omega, by rfl⟩)⟩) | (exact ⟨rfl, Or.inr (⟨by omega, by (first | rfl | (rw [b2i_t (by omega)]; done) | (rw [b2i_f (by omega)]; done) | (rw [b2i_t (by omega)]; rfl) | (rw [b2i_f (by omega)]; rfl)), rfl⟩)⟩))
  · skip
    refine lv_iload_n hx hb dX8_setHarvest_11 rfl (lv_at hl 2 rfl) ?_
    refine lv_iconst (v := iI 0) hx hb dX8_setHarvest_12 rfl ?_
    refine lv_sipush (v := iI 1000) hx hb dX8_setHarvest_13 (by decide) ?_
    refine zc_pi (va_runS (As := [.int (iI x2), .int (iI 0), .int (iI 1000)]) (rest := [.ref (q 0)]) ⟨hx, hb, hml, hown, hts⟩ (kX8_in l dC dI cI cJ cZ x2 0 1000 (by first | assumption | omega | exact b2i_01 _) (by first | assumption | omega | exact b2i_01 _) (by first | assumption | omega | exact b2i_01 _)) (va_cwS 3 hts gX8_setHarvest_X8_in rfl rfl rfl (by decide +kernel) ⟨Nat.le_of_ble_eq_true rfl, Nat.le_of_ble_eq_true rfl⟩) (zqS hK hP [] rfl) rfl rfl hl.1 rfl (lv_room (Nat.le_of_ble_eq_true rfl)) dX8_setHarvest_16 ⟨Nat.le_of_ble_eq_true rfl, Nat.le_of_ble_eq_true rfl⟩) ?_
    refine zb_feq (tgt := 26) hx hb dX8_setHarvest_19 (by decide) (fun c_6 => ?_) (fun c_6 => ?_)
    · skip
      refine lv_iconst (v := iI 0) hx hb dX8_setHarvest_26 rfl ?_
      refine zc_i (va_runV (As := [.int (iI 0)]) (rest := []) ⟨hx, hb, hml, hown, hts⟩ (kX8_asks l dC dI cI cJ cZ q pw co la vo nC par div dee use mrun nT due lat wk nE tk ld rule now st asl idn idl sp pe tin slp late srv hv av bd sh mL mB thr 0 (by first | assumption | omega | exact b2i_01 _) s.heap.size) (cwV 1 hts gX8_setHarvest_X8_asks rfl rfl rfl (by decide +kernel) ⟨Nat.le_of_ble_eq_true rfl, Nat.le_of_ble_eq_true rfl⟩) (zpV hK hP hD [0, 1, 2, 3, 4, 5, 6, 7, 8, 9, 10, 11, 12, 13, 14, 15, 16, 17, 18, 19] rfl rfl 0 rfl rfl) rfl rfl hl.1 rfl (lv_room (Nat.le_of_ble_eq_true rfl)) dX8_setHarvest_27 ⟨Nat.le_of_ble_eq_true rfl, Nat.le_of_ble_eq_true rfl⟩) hP hD hS hA [0, 1, 2, 3, 4, 5, 6, 7, 8, 9, 10, 11, 12, 13, 14, 15, 16, 17, 18, 19] [] rfl rfl rfl (by decide) (fun v_9 u_8 H locs r_7 hP hD hS => ?_)
      refine ze_i r_7 ?_
      have hP : va_P (dC, dI) vwCl (wM cI cJ cZ q pw co la vo nC par div dee use mrun nT due lat wk nE tk ld rule now st asl idn idl sp pe tin slp late srv hv av bd sh mL mB (1 - 0)) H := hP
      have hD : va_D A (wM cI cJ cZ q pw co la vo nC par div dee use mrun nT due lat wk nE tk ld rule now st asl idn idl sp pe tin slp late srv hv av bd sh mL mB (1 - 0)) := hD
      refine zi_fne (tgt := 35) hx hb (by decide) dX8_setHarvest_30 (by decide) (fun c_10 => ?_) (fun c_10 => ?_)
      · skip
        exact absurd c_10 (by decide)
      · skip
        refine lv_iconst (v := iI 0) hx hb dX8_setHarvest_33 rfl ?_
        subst hQ
        exact zret_i (W1 := fun u9 : Int × Int × (Int → Int) => wM cI cJ cZ q pw co la vo nC par div dee use mrun nT due lat wk nE tk ld rule now st asl idn idl sp pe tin slp late srv (u9.2.2) av bd sh mL mB (u9.2.1)) (0, 1 - 0, hv) hx hb hr hP hD hS hlocks dX8_setHarvest_34 (by first | (exact ⟨rfl, Or.inl (⟨by omega, by (first | rfl | (rw [b2i_t (by omega)]; done) | (rw [b2i_f (by omega)]; done) | (rw [b2i_t (by omega)]; rfl) | (rw [b2i_f (by omega)]; rfl)), by first | rfl | omega, by rfl⟩)⟩) | (exact ⟨rfl, Or.inr (⟨by omega, by (first | rfl | (rw [b2i_t (by omega)]; done) | (rw [b2i_f (by omega)]; done) | (rw [b2i_t (by omega)]; rfl) | (rw [b2i_f (by omega)]; rfl)), rfl⟩)⟩))
    · skip
      refine lv_iconst (v := iI 1) hx hb dX8_setHarvest_22 rfl ?_
      refine lv_goto (tgt := 27) hx hb dX8_setHarvest_23 (by decide) ?_
      refine zc_i (va_runV (As := [.int (iI 1)]) (rest := []) ⟨hx, hb, hml, hown, hts⟩ (kX8_asks l dC dI cI cJ cZ q pw co la vo nC par div dee use mrun nT due lat wk nE tk ld rule now st asl idn idl sp pe tin slp late srv hv av bd sh mL mB thr 1 (by first | assumption | omega | exact b2i_01 _) s.heap.size) (cwV 1 hts gX8_setHarvest_X8_asks rfl rfl rfl (by decide +kernel) ⟨Nat.le_of_ble_eq_true rfl, Nat.le_of_ble_eq_true rfl⟩) (zpV hK hP hD [0, 1, 2, 3, 4, 5, 6, 7, 8, 9, 10, 11, 12, 13, 14, 15, 16, 17, 18, 19] rfl rfl 0 rfl rfl) rfl rfl hl.1 rfl (lv_room (Nat.le_of_ble_eq_true rfl)) dX8_setHarvest_27 ⟨Nat.le_of_ble_eq_true rfl, Nat.le_of_ble_eq_true rfl⟩) hP hD hS hA [0, 1, 2, 3, 4, 5, 6, 7, 8, 9, 10, 11, 12, 13, 14, 15, 16, 17, 18, 19] [] rfl rfl rfl (by decide) (fun v_13 u_12 H locs r_11 hP hD hS => ?_)
      refine ze_i r_11 ?_
      have hP : va_P (dC, dI) vwCl (wM cI cJ cZ q pw co la vo nC par div dee use mrun nT due lat wk nE tk ld rule now st asl idn idl sp pe tin slp late srv hv av bd sh mL mB (1 - 1)) H := hP
      have hD : va_D A (wM cI cJ cZ q pw co la vo nC par div dee use mrun nT due lat wk nE tk ld rule now st asl idn idl sp pe tin slp late srv hv av bd sh mL mB (1 - 1)) := hD
      refine zi_fne (tgt := 35) hx hb (by decide) dX8_setHarvest_30 (by decide) (fun c_14 => ?_) (fun c_14 => ?_)
      · skip
        refine lv_aload_n hx hb dX8_setHarvest_35 rfl (lv_at hl 0 rfl) ?_
        refine va_get (D := (dC, dI)) (ci := 8) (v := .ref (q 17)) (C := RX8) (T := TX8) (N := 36) hx hb hts hinX8 hown hK.1 hP 0 rfl rfl 29 (by decide) (hts _ (List.mem_of_getElem? (i := 1) rfl)) (fun _ h9 => h9) rfl dX8_setHarvest_36 ?_
        refine lv_iload_n hx hb dX8_setHarvest_39 rfl (lv_at hl 1 rfl) ?_
        refine za_ld hx hb hK hP 17 0 rfl rfl (by omega) (by omega) dX8_setHarvest_40 ?_
        refine lv_istore_n (lv' := [(3, .int (iI (hv x1))), (0, .ref (q 0)), (1, .int (iI x1)), (2, .int (iI x2))]) hx hb dX8_setHarvest_41 rfl hl (by decide) rfl (fun ls hl => ?_)
        refine lv_aload_n hx hb dX8_setHarvest_42 rfl (lv_at hl 1 rfl) ?_
        refine va_get (D := (dC, dI)) (ci := 8) (v := .ref (q 17)) (C := RX8) (T := TX8) (N := 36) hx hb hts hinX8 hown hK.1 hP 0 rfl rfl 29 (by decide) (hts _ (List.mem_of_getElem? (i := 1) rfl)) (fun _ h9 => h9) rfl dX8_setHarvest_43 ?_
        refine lv_iload_n hx hb dX8_setHarvest_46 rfl (lv_at hl 2 rfl) ?_
        refine lv_iload_n hx hb dX8_setHarvest_47 rfl (lv_at hl 3 rfl) ?_
        refine za_st hx hb hK hP hD hS 17 0 rfl rfl (by omega) (by omega) dX8_setHarvest_48 (fun H locs hP hD hS => ?_)
        have hP : va_P (dC, dI) vwCl (wM cI cJ cZ q pw co la vo nC par div dee use mrun nT due lat wk nE tk ld rule now st asl idn idl sp pe tin slp late srv (uZ hv x1 x2) av bd sh mL mB (1 - 1)) H := hP
        have hD : va_D A (wM cI cJ cZ q pw co la vo nC par div dee use mrun nT due lat wk nE tk ld rule now st asl idn idl sp pe tin slp late srv (uZ hv x1 x2) av bd sh mL mB (1 - 1)) := hD
        refine lv_iload_n hx hb dX8_setHarvest_49 rfl (lv_at hl 0 rfl) ?_
        subst hQ
        exact zret_i (W1 := fun u9 : Int × Int × (Int → Int) => wM cI cJ cZ q pw co la vo nC par div dee use mrun nT due lat wk nE tk ld rule now st asl idn idl sp pe tin slp late srv (u9.2.2) av bd sh mL mB (u9.2.1)) (hv x1, 1 - 1, uZ hv x1 x2) hx hb hr hP hD hS hlocks dX8_setHarvest_50 (by first | (exact ⟨rfl, Or.inl (⟨by omega, by (first | rfl | (rw [b2i_t (by omega)]; done) | (rw [b2i_f (by omega)]; done) | (rw [b2i_t (by omega)]; rfl) | (rw [b2i_f (by omega)]; rfl)), by first | rfl | omega, by rfl⟩)⟩) | (exact ⟨rfl, Or.inr (⟨by omega, by (first | rfl | (rw [b2i_t (by omega)]; done) | (rw [b2i_f (by omega)]; done) | (rw [b2i_t (by omega)]; rfl) | (rw [b2i_f (by omega)]; rfl)), rfl⟩)⟩))
      · skip
        exact absurd c_14 (by decide)
def rmX8_timers : Room := { frames := 0, cells := 0, slots := 0, locals := 0 }
set_option maxRecDepth 100000 in
set_option maxHeartbeats 4000000 in
theorem kX8_timers (l : Launch) (dC : Nat → ClassId) (dI : Nat → Nat → Nat) (cI cJ cZ : ClassId) (q : Nat → Nat)  (pw : Int → Int) (co : Int → Int) (la : Int → Int) (vo : Int → Int) (nC : Int) (par : Int → Int) (div : Int → Int) (dee : Int → Int) (use : Int → Int) (mrun : Int → Int) (nT : Int) (due : Int → Int) (lat : Int → Int) (wk : Int → Int) (nE : Int) (tk : Int → Int) (ld : Int → Int) (rule : Int) (now : Int) (st : Int) (asl : Int) (idn : Int) (idl : Int → Int) (sp : Int) (pe : Int) (tin : Int → Int) (slp : Int) (late : Int) (srv : Int) (hv : Int → Int) (av : Int) (bd : Int) (sh : Int) (mL : Int → Int) (mB : Int → Int) (thr : Int)  : zMi l yX8_timers wsX8_timers rmX8_timers (dC, dI) (zT cI cJ cZ) (wM cI cJ cZ q pw co la vo nC par div dee use mrun nT due lat wk nE tk ld rule now st asl idn idl sp pe tin slp late srv hv av bd sh mL mB thr) [.ref (q 0)] (fun (r9 : Int) (_ : Unit) => r9 = nT) (fun _ : Unit => wM cI cJ cZ q pw co la vo nC par div dee use mrun nT due lat wk nE tk ld rule now st asl idn idl sp pe tin slp late srv hv av bd sh mL mB 0) 0 0 := by
  refine zent_i (cc := cX8_timers) (maxL := 1) (ret := (some .int)) (by decide +kernel) rfl (Nat.le_of_ble_eq_true rfl) ?_
  intro p e s m below meth c A ls hE hP hK hA hD hS hl
  obtain ⟨hx, hb, hr, hml, hown, hts, hlocks, hmn⟩ := hE
  have hinX8 : ∀ w ∈ u_ws RX8 TX8 36, w ∈ wsX8_timers := by decide +kernel
  have hl : lv_has ls 1 [(0, .ref (q 0))] := hl
  refine z_gen (fun Q hQ => ?_)
  refine lv_aload_n hx hb dX8_timers_0 rfl (lv_at hl 0 rfl) ?_
  refine lv_iconst (v := iI 0) hx hb dX8_timers_1 rfl ?_
  refine va_put (D := (dC, dI)) (ci := 8) (v := .int (iI 0)) (ty := .int) (C := RX8) (T := TX8) (N := 36) hx hb hts hinX8 tyX8 tyX8_ok nmX8 hown hK.1 hP hD hS 0 rfl rfl 35 (by decide) (hts _ (List.mem_of_getElem? (i := 1) rfl)) (fun _ h9 => h9) rfl (by decide +kernel) rfl rfl (Nat.le_of_ble_eq_true rfl) dX8_timers_2 (fun H locs hP hD hS => ?_)
  have hP : va_P (dC, dI) vwCl (wM cI cJ cZ q pw co la vo nC par div dee use mrun nT due lat wk nE tk ld rule now st asl idn idl sp pe tin slp late srv hv av bd sh mL mB 0) H := hP
  have hD : va_D A (wM cI cJ cZ q pw co la vo nC par div dee use mrun nT due lat wk nE tk ld rule now st asl idn idl sp pe tin slp late srv hv av bd sh mL mB 0) := hD
  refine lv_aload_n hx hb dX8_timers_5 rfl (lv_at hl 0 rfl) ?_
  refine va_get (D := (dC, dI)) (ci := 8) (v := .int (iI nT)) (C := RX8) (T := TX8) (N := 36) hx hb hts hinX8 hown hK.1 hP 0 rfl rfl 10 (by decide) (hts _ (List.mem_of_getElem? (i := 2) rfl)) (fun _ h9 => h9) rfl dX8_timers_6 ?_
  subst hQ
  exact zret_i (W1 := fun _ : Unit => wM cI cJ cZ q pw co la vo nC par div dee use mrun nT due lat wk nE tk ld rule now st asl idn idl sp pe tin slp late srv hv av bd sh mL mB 0) () hx hb hr hP hD hS hlocks dX8_timers_9 (by rfl)
def rmX8_now : Room := { frames := 0, cells := 0, slots := 0, locals := 0 }
set_option maxRecDepth 100000 in
set_option maxHeartbeats 4000000 in
theorem kX8_now (l : Launch) (dC : Nat → ClassId) (dI : Nat → Nat → Nat) (cI cJ cZ : ClassId) (q : Nat → Nat)  (pw : Int → Int) (co : Int → Int) (la : Int → Int) (vo : Int → Int) (nC : Int) (par : Int → Int) (div : Int → Int) (dee : Int → Int) (use : Int → Int) (mrun : Int → Int) (nT : Int) (due : Int → Int) (lat : Int → Int) (wk : Int → Int) (nE : Int) (tk : Int → Int) (ld : Int → Int) (rule : Int) (now : Int) (st : Int) (asl : Int) (idn : Int) (idl : Int → Int) (sp : Int) (pe : Int) (tin : Int → Int) (slp : Int) (late : Int) (srv : Int) (hv : Int → Int) (av : Int) (bd : Int) (sh : Int) (mL : Int → Int) (mB : Int → Int) (thr : Int)  : zMi l yX8_now wsX8_now rmX8_now (dC, dI) (zT cI cJ cZ) (wM cI cJ cZ q pw co la vo nC par div dee use mrun nT due lat wk nE tk ld rule now st asl idn idl sp pe tin slp late srv hv av bd sh mL mB thr) [.ref (q 0)] (fun (r9 : Int) (_ : Unit) => r9 = now) (fun _ : Unit => wM cI cJ cZ q pw co la vo nC par div dee use mrun nT due lat wk nE tk ld rule now st asl idn idl sp pe tin slp late srv hv av bd sh mL mB 0) 0 0 := by
  refine zent_i (cc := cX8_now) (maxL := 1) (ret := (some .int)) (by decide +kernel) rfl (Nat.le_of_ble_eq_true rfl) ?_
  intro p e s m below meth c A ls hE hP hK hA hD hS hl
  obtain ⟨hx, hb, hr, hml, hown, hts, hlocks, hmn⟩ := hE
  have hinX8 : ∀ w ∈ u_ws RX8 TX8 36, w ∈ wsX8_now := by decide +kernel
  have hl : lv_has ls 1 [(0, .ref (q 0))] := hl
  refine z_gen (fun Q hQ => ?_)
  refine lv_aload_n hx hb dX8_now_0 rfl (lv_at hl 0 rfl) ?_
  refine lv_iconst (v := iI 0) hx hb dX8_now_1 rfl ?_
  refine va_put (D := (dC, dI)) (ci := 8) (v := .int (iI 0)) (ty := .int) (C := RX8) (T := TX8) (N := 36) hx hb hts hinX8 tyX8 tyX8_ok nmX8 hown hK.1 hP hD hS 0 rfl rfl 35 (by decide) (hts _ (List.mem_of_getElem? (i := 1) rfl)) (fun _ h9 => h9) rfl (by decide +kernel) rfl rfl (Nat.le_of_ble_eq_true rfl) dX8_now_2 (fun H locs hP hD hS => ?_)
  have hP : va_P (dC, dI) vwCl (wM cI cJ cZ q pw co la vo nC par div dee use mrun nT due lat wk nE tk ld rule now st asl idn idl sp pe tin slp late srv hv av bd sh mL mB 0) H := hP
  have hD : va_D A (wM cI cJ cZ q pw co la vo nC par div dee use mrun nT due lat wk nE tk ld rule now st asl idn idl sp pe tin slp late srv hv av bd sh mL mB 0) := hD
  refine lv_aload_n hx hb dX8_now_5 rfl (lv_at hl 0 rfl) ?_
  refine va_get (D := (dC, dI)) (ci := 8) (v := .int (iI now)) (C := RX8) (T := TX8) (N := 36) hx hb hts hinX8 hown hK.1 hP 0 rfl rfl 18 (by decide) (hts _ (List.mem_of_getElem? (i := 2) rfl)) (fun _ h9 => h9) rfl dX8_now_6 ?_
  subst hQ
  exact zret_i (W1 := fun _ : Unit => wM cI cJ cZ q pw co la vo nC par div dee use mrun nT due lat wk nE tk ld rule now st asl idn idl sp pe tin slp late srv hv av bd sh mL mB 0) () hx hb hr hP hD hS hlocks dX8_now_9 (by rfl)
def rmX8_state : Room := { frames := 0, cells := 0, slots := 0, locals := 0 }
set_option maxRecDepth 100000 in
set_option maxHeartbeats 4000000 in
theorem kX8_state (l : Launch) (dC : Nat → ClassId) (dI : Nat → Nat → Nat) (cI cJ cZ : ClassId) (q : Nat → Nat)  (pw : Int → Int) (co : Int → Int) (la : Int → Int) (vo : Int → Int) (nC : Int) (par : Int → Int) (div : Int → Int) (dee : Int → Int) (use : Int → Int) (mrun : Int → Int) (nT : Int) (due : Int → Int) (lat : Int → Int) (wk : Int → Int) (nE : Int) (tk : Int → Int) (ld : Int → Int) (rule : Int) (now : Int) (st : Int) (asl : Int) (idn : Int) (idl : Int → Int) (sp : Int) (pe : Int) (tin : Int → Int) (slp : Int) (late : Int) (srv : Int) (hv : Int → Int) (av : Int) (bd : Int) (sh : Int) (mL : Int → Int) (mB : Int → Int) (thr : Int)  : zMi l yX8_state wsX8_state rmX8_state (dC, dI) (zT cI cJ cZ) (wM cI cJ cZ q pw co la vo nC par div dee use mrun nT due lat wk nE tk ld rule now st asl idn idl sp pe tin slp late srv hv av bd sh mL mB thr) [.ref (q 0)] (fun (r9 : Int) (_ : Unit) => r9 = st) (fun _ : Unit => wM cI cJ cZ q pw co la vo nC par div dee use mrun nT due lat wk nE tk ld rule now st asl idn idl sp pe tin slp late srv hv av bd sh mL mB 0) 0 0 := by
  refine zent_i (cc := cX8_state) (maxL := 1) (ret := (some .int)) (by decide +kernel) rfl (Nat.le_of_ble_eq_true rfl) ?_
  intro p e s m below meth c A ls hE hP hK hA hD hS hl
  obtain ⟨hx, hb, hr, hml, hown, hts, hlocks, hmn⟩ := hE
  have hinX8 : ∀ w ∈ u_ws RX8 TX8 36, w ∈ wsX8_state := by decide +kernel
  have hl : lv_has ls 1 [(0, .ref (q 0))] := hl
  refine z_gen (fun Q hQ => ?_)
  refine lv_aload_n hx hb dX8_state_0 rfl (lv_at hl 0 rfl) ?_
  refine lv_iconst (v := iI 0) hx hb dX8_state_1 rfl ?_
  refine va_put (D := (dC, dI)) (ci := 8) (v := .int (iI 0)) (ty := .int) (C := RX8) (T := TX8) (N := 36) hx hb hts hinX8 tyX8 tyX8_ok nmX8 hown hK.1 hP hD hS 0 rfl rfl 35 (by decide) (hts _ (List.mem_of_getElem? (i := 1) rfl)) (fun _ h9 => h9) rfl (by decide +kernel) rfl rfl (Nat.le_of_ble_eq_true rfl) dX8_state_2 (fun H locs hP hD hS => ?_)
  have hP : va_P (dC, dI) vwCl (wM cI cJ cZ q pw co la vo nC par div dee use mrun nT due lat wk nE tk ld rule now st asl idn idl sp pe tin slp late srv hv av bd sh mL mB 0) H := hP
  have hD : va_D A (wM cI cJ cZ q pw co la vo nC par div dee use mrun nT due lat wk nE tk ld rule now st asl idn idl sp pe tin slp late srv hv av bd sh mL mB 0) := hD
  refine lv_aload_n hx hb dX8_state_5 rfl (lv_at hl 0 rfl) ?_
  refine va_get (D := (dC, dI)) (ci := 8) (v := .int (iI st)) (C := RX8) (T := TX8) (N := 36) hx hb hts hinX8 hown hK.1 hP 0 rfl rfl 19 (by decide) (hts _ (List.mem_of_getElem? (i := 2) rfl)) (fun _ h9 => h9) rfl dX8_state_6 ?_
  subst hQ
  exact zret_i (W1 := fun _ : Unit => wM cI cJ cZ q pw co la vo nC par div dee use mrun nT due lat wk nE tk ld rule now st asl idn idl sp pe tin slp late srv hv av bd sh mL mB 0) () hx hb hr hP hD hS hlocks dX8_state_9 (by rfl)
def rmX8_sleeps : Room := { frames := 0, cells := 0, slots := 0, locals := 0 }
set_option maxRecDepth 100000 in
set_option maxHeartbeats 4000000 in
theorem kX8_sleeps (l : Launch) (dC : Nat → ClassId) (dI : Nat → Nat → Nat) (cI cJ cZ : ClassId) (q : Nat → Nat)  (pw : Int → Int) (co : Int → Int) (la : Int → Int) (vo : Int → Int) (nC : Int) (par : Int → Int) (div : Int → Int) (dee : Int → Int) (use : Int → Int) (mrun : Int → Int) (nT : Int) (due : Int → Int) (lat : Int → Int) (wk : Int → Int) (nE : Int) (tk : Int → Int) (ld : Int → Int) (rule : Int) (now : Int) (st : Int) (asl : Int) (idn : Int) (idl : Int → Int) (sp : Int) (pe : Int) (tin : Int → Int) (slp : Int) (late : Int) (srv : Int) (hv : Int → Int) (av : Int) (bd : Int) (sh : Int) (mL : Int → Int) (mB : Int → Int) (thr : Int)  : zMi l yX8_sleeps wsX8_sleeps rmX8_sleeps (dC, dI) (zT cI cJ cZ) (wM cI cJ cZ q pw co la vo nC par div dee use mrun nT due lat wk nE tk ld rule now st asl idn idl sp pe tin slp late srv hv av bd sh mL mB thr) [.ref (q 0)] (fun (r9 : Int) (_ : Unit) => r9 = slp) (fun _ : Unit => wM cI cJ cZ q pw co la vo nC par div dee use mrun nT due lat wk nE tk ld rule now st asl idn idl sp pe tin slp late srv hv av bd sh mL mB 0) 0 0 := by
  refine zent_i (cc := cX8_sleeps) (maxL := 1) (ret := (some .int)) (by decide +kernel) rfl (Nat.le_of_ble_eq_true rfl) ?_
  intro p e s m below meth c A ls hE hP hK hA hD hS hl
  obtain ⟨hx, hb, hr, hml, hown, hts, hlocks, hmn⟩ := hE
  have hinX8 : ∀ w ∈ u_ws RX8 TX8 36, w ∈ wsX8_sleeps := by decide +kernel
  have hl : lv_has ls 1 [(0, .ref (q 0))] := hl
  refine z_gen (fun Q hQ => ?_)
  refine lv_aload_n hx hb dX8_sleeps_0 rfl (lv_at hl 0 rfl) ?_
  refine lv_iconst (v := iI 0) hx hb dX8_sleeps_1 rfl ?_
  refine va_put (D := (dC, dI)) (ci := 8) (v := .int (iI 0)) (ty := .int) (C := RX8) (T := TX8) (N := 36) hx hb hts hinX8 tyX8 tyX8_ok nmX8 hown hK.1 hP hD hS 0 rfl rfl 35 (by decide) (hts _ (List.mem_of_getElem? (i := 1) rfl)) (fun _ h9 => h9) rfl (by decide +kernel) rfl rfl (Nat.le_of_ble_eq_true rfl) dX8_sleeps_2 (fun H locs hP hD hS => ?_)
  have hP : va_P (dC, dI) vwCl (wM cI cJ cZ q pw co la vo nC par div dee use mrun nT due lat wk nE tk ld rule now st asl idn idl sp pe tin slp late srv hv av bd sh mL mB 0) H := hP
  have hD : va_D A (wM cI cJ cZ q pw co la vo nC par div dee use mrun nT due lat wk nE tk ld rule now st asl idn idl sp pe tin slp late srv hv av bd sh mL mB 0) := hD
  refine lv_aload_n hx hb dX8_sleeps_5 rfl (lv_at hl 0 rfl) ?_
  refine va_get (D := (dC, dI)) (ci := 8) (v := .int (iI slp)) (C := RX8) (T := TX8) (N := 36) hx hb hts hinX8 hown hK.1 hP 0 rfl rfl 26 (by decide) (hts _ (List.mem_of_getElem? (i := 2) rfl)) (fun _ h9 => h9) rfl dX8_sleeps_6 ?_
  subst hQ
  exact zret_i (W1 := fun _ : Unit => wM cI cJ cZ q pw co la vo nC par div dee use mrun nT due lat wk nE tk ld rule now st asl idn idl sp pe tin slp late srv hv av bd sh mL mB 0) () hx hb hr hP hD hS hlocks dX8_sleeps_9 (by rfl)
def rmX8_lateness : Room := { frames := 0, cells := 0, slots := 0, locals := 0 }
set_option maxRecDepth 100000 in
set_option maxHeartbeats 4000000 in
theorem kX8_lateness (l : Launch) (dC : Nat → ClassId) (dI : Nat → Nat → Nat) (cI cJ cZ : ClassId) (q : Nat → Nat)  (pw : Int → Int) (co : Int → Int) (la : Int → Int) (vo : Int → Int) (nC : Int) (par : Int → Int) (div : Int → Int) (dee : Int → Int) (use : Int → Int) (mrun : Int → Int) (nT : Int) (due : Int → Int) (lat : Int → Int) (wk : Int → Int) (nE : Int) (tk : Int → Int) (ld : Int → Int) (rule : Int) (now : Int) (st : Int) (asl : Int) (idn : Int) (idl : Int → Int) (sp : Int) (pe : Int) (tin : Int → Int) (slp : Int) (late : Int) (srv : Int) (hv : Int → Int) (av : Int) (bd : Int) (sh : Int) (mL : Int → Int) (mB : Int → Int) (thr : Int)  : zMi l yX8_lateness wsX8_lateness rmX8_lateness (dC, dI) (zT cI cJ cZ) (wM cI cJ cZ q pw co la vo nC par div dee use mrun nT due lat wk nE tk ld rule now st asl idn idl sp pe tin slp late srv hv av bd sh mL mB thr) [.ref (q 0)] (fun (r9 : Int) (_ : Unit) => r9 = late) (fun _ : Unit => wM cI cJ cZ q pw co la vo nC par div dee use mrun nT due lat wk nE tk ld rule now st asl idn idl sp pe tin slp late srv hv av bd sh mL mB 0) 0 0 := by
  refine zent_i (cc := cX8_lateness) (maxL := 1) (ret := (some .int)) (by decide +kernel) rfl (Nat.le_of_ble_eq_true rfl) ?_
  intro p e s m below meth c A ls hE hP hK hA hD hS hl
  obtain ⟨hx, hb, hr, hml, hown, hts, hlocks, hmn⟩ := hE
  have hinX8 : ∀ w ∈ u_ws RX8 TX8 36, w ∈ wsX8_lateness := by decide +kernel
  have hl : lv_has ls 1 [(0, .ref (q 0))] := hl
  refine z_gen (fun Q hQ => ?_)
  refine lv_aload_n hx hb dX8_lateness_0 rfl (lv_at hl 0 rfl) ?_
  refine lv_iconst (v := iI 0) hx hb dX8_lateness_1 rfl ?_
  refine va_put (D := (dC, dI)) (ci := 8) (v := .int (iI 0)) (ty := .int) (C := RX8) (T := TX8) (N := 36) hx hb hts hinX8 tyX8 tyX8_ok nmX8 hown hK.1 hP hD hS 0 rfl rfl 35 (by decide) (hts _ (List.mem_of_getElem? (i := 1) rfl)) (fun _ h9 => h9) rfl (by decide +kernel) rfl rfl (Nat.le_of_ble_eq_true rfl) dX8_lateness_2 (fun H locs hP hD hS => ?_)
  have hP : va_P (dC, dI) vwCl (wM cI cJ cZ q pw co la vo nC par div dee use mrun nT due lat wk nE tk ld rule now st asl idn idl sp pe tin slp late srv hv av bd sh mL mB 0) H := hP
  have hD : va_D A (wM cI cJ cZ q pw co la vo nC par div dee use mrun nT due lat wk nE tk ld rule now st asl idn idl sp pe tin slp late srv hv av bd sh mL mB 0) := hD
  refine lv_aload_n hx hb dX8_lateness_5 rfl (lv_at hl 0 rfl) ?_
  refine va_get (D := (dC, dI)) (ci := 8) (v := .int (iI late)) (C := RX8) (T := TX8) (N := 36) hx hb hts hinX8 hown hK.1 hP 0 rfl rfl 27 (by decide) (hts _ (List.mem_of_getElem? (i := 2) rfl)) (fun _ h9 => h9) rfl dX8_lateness_6 ?_
  subst hQ
  exact zret_i (W1 := fun _ : Unit => wM cI cJ cZ q pw co la vo nC par div dee use mrun nT due lat wk nE tk ld rule now st asl idn idl sp pe tin slp late srv hv av bd sh mL mB 0) () hx hb hr hP hD hS hlocks dX8_lateness_9 (by rfl)
def rmX8_served : Room := { frames := 0, cells := 0, slots := 0, locals := 0 }
set_option maxRecDepth 100000 in
set_option maxHeartbeats 4000000 in
theorem kX8_served (l : Launch) (dC : Nat → ClassId) (dI : Nat → Nat → Nat) (cI cJ cZ : ClassId) (q : Nat → Nat)  (pw : Int → Int) (co : Int → Int) (la : Int → Int) (vo : Int → Int) (nC : Int) (par : Int → Int) (div : Int → Int) (dee : Int → Int) (use : Int → Int) (mrun : Int → Int) (nT : Int) (due : Int → Int) (lat : Int → Int) (wk : Int → Int) (nE : Int) (tk : Int → Int) (ld : Int → Int) (rule : Int) (now : Int) (st : Int) (asl : Int) (idn : Int) (idl : Int → Int) (sp : Int) (pe : Int) (tin : Int → Int) (slp : Int) (late : Int) (srv : Int) (hv : Int → Int) (av : Int) (bd : Int) (sh : Int) (mL : Int → Int) (mB : Int → Int) (thr : Int)  : zMi l yX8_served wsX8_served rmX8_served (dC, dI) (zT cI cJ cZ) (wM cI cJ cZ q pw co la vo nC par div dee use mrun nT due lat wk nE tk ld rule now st asl idn idl sp pe tin slp late srv hv av bd sh mL mB thr) [.ref (q 0)] (fun (r9 : Int) (_ : Unit) => r9 = srv) (fun _ : Unit => wM cI cJ cZ q pw co la vo nC par div dee use mrun nT due lat wk nE tk ld rule now st asl idn idl sp pe tin slp late srv hv av bd sh mL mB 0) 0 0 := by
  refine zent_i (cc := cX8_served) (maxL := 1) (ret := (some .int)) (by decide +kernel) rfl (Nat.le_of_ble_eq_true rfl) ?_
  intro p e s m below meth c A ls hE hP hK hA hD hS hl
  obtain ⟨hx, hb, hr, hml, hown, hts, hlocks, hmn⟩ := hE
  have hinX8 : ∀ w ∈ u_ws RX8 TX8 36, w ∈ wsX8_served := by decide +kernel
  have hl : lv_has ls 1 [(0, .ref (q 0))] := hl
  refine z_gen (fun Q hQ => ?_)
  refine lv_aload_n hx hb dX8_served_0 rfl (lv_at hl 0 rfl) ?_
  refine lv_iconst (v := iI 0) hx hb dX8_served_1 rfl ?_
  refine va_put (D := (dC, dI)) (ci := 8) (v := .int (iI 0)) (ty := .int) (C := RX8) (T := TX8) (N := 36) hx hb hts hinX8 tyX8 tyX8_ok nmX8 hown hK.1 hP hD hS 0 rfl rfl 35 (by decide) (hts _ (List.mem_of_getElem? (i := 1) rfl)) (fun _ h9 => h9) rfl (by decide +kernel) rfl rfl (Nat.le_of_ble_eq_true rfl) dX8_served_2 (fun H locs hP hD hS => ?_)
  have hP : va_P (dC, dI) vwCl (wM cI cJ cZ q pw co la vo nC par div dee use mrun nT due lat wk nE tk ld rule now st asl idn idl sp pe tin slp late srv hv av bd sh mL mB 0) H := hP
  have hD : va_D A (wM cI cJ cZ q pw co la vo nC par div dee use mrun nT due lat wk nE tk ld rule now st asl idn idl sp pe tin slp late srv hv av bd sh mL mB 0) := hD
  refine lv_aload_n hx hb dX8_served_5 rfl (lv_at hl 0 rfl) ?_
  refine va_get (D := (dC, dI)) (ci := 8) (v := .int (iI srv)) (C := RX8) (T := TX8) (N := 36) hx hb hts hinX8 hown hK.1 hP 0 rfl rfl 28 (by decide) (hts _ (List.mem_of_getElem? (i := 2) rfl)) (fun _ h9 => h9) rfl dX8_served_6 ?_
  subst hQ
  exact zret_i (W1 := fun _ : Unit => wM cI cJ cZ q pw co la vo nC par div dee use mrun nT due lat wk nE tk ld rule now st asl idn idl sp pe tin slp late srv hv av bd sh mL mB 0) () hx hb hr hP hD hS hlocks dX8_served_9 (by rfl)
def rmX8_available : Room := { frames := 0, cells := 0, slots := 0, locals := 0 }
set_option maxRecDepth 100000 in
set_option maxHeartbeats 4000000 in
theorem kX8_available (l : Launch) (dC : Nat → ClassId) (dI : Nat → Nat → Nat) (cI cJ cZ : ClassId) (q : Nat → Nat)  (pw : Int → Int) (co : Int → Int) (la : Int → Int) (vo : Int → Int) (nC : Int) (par : Int → Int) (div : Int → Int) (dee : Int → Int) (use : Int → Int) (mrun : Int → Int) (nT : Int) (due : Int → Int) (lat : Int → Int) (wk : Int → Int) (nE : Int) (tk : Int → Int) (ld : Int → Int) (rule : Int) (now : Int) (st : Int) (asl : Int) (idn : Int) (idl : Int → Int) (sp : Int) (pe : Int) (tin : Int → Int) (slp : Int) (late : Int) (srv : Int) (hv : Int → Int) (av : Int) (bd : Int) (sh : Int) (mL : Int → Int) (mB : Int → Int) (thr : Int)  : zMi l yX8_available wsX8_available rmX8_available (dC, dI) (zT cI cJ cZ) (wM cI cJ cZ q pw co la vo nC par div dee use mrun nT due lat wk nE tk ld rule now st asl idn idl sp pe tin slp late srv hv av bd sh mL mB thr) [.ref (q 0)] (fun (r9 : Int) (_ : Unit) => r9 = av) (fun _ : Unit => wM cI cJ cZ q pw co la vo nC par div dee use mrun nT due lat wk nE tk ld rule now st asl idn idl sp pe tin slp late srv hv av bd sh mL mB 0) 0 0 := by
  refine zent_i (cc := cX8_available) (maxL := 1) (ret := (some .int)) (by decide +kernel) rfl (Nat.le_of_ble_eq_true rfl) ?_
  intro p e s m below meth c A ls hE hP hK hA hD hS hl
  obtain ⟨hx, hb, hr, hml, hown, hts, hlocks, hmn⟩ := hE
  have hinX8 : ∀ w ∈ u_ws RX8 TX8 36, w ∈ wsX8_available := by decide +kernel
  have hl : lv_has ls 1 [(0, .ref (q 0))] := hl
  refine z_gen (fun Q hQ => ?_)
  refine lv_aload_n hx hb dX8_available_0 rfl (lv_at hl 0 rfl) ?_
  refine lv_iconst (v := iI 0) hx hb dX8_available_1 rfl ?_
  refine va_put (D := (dC, dI)) (ci := 8) (v := .int (iI 0)) (ty := .int) (C := RX8) (T := TX8) (N := 36) hx hb hts hinX8 tyX8 tyX8_ok nmX8 hown hK.1 hP hD hS 0 rfl rfl 35 (by decide) (hts _ (List.mem_of_getElem? (i := 1) rfl)) (fun _ h9 => h9) rfl (by decide +kernel) rfl rfl (Nat.le_of_ble_eq_true rfl) dX8_available_2 (fun H locs hP hD hS => ?_)
  have hP : va_P (dC, dI) vwCl (wM cI cJ cZ q pw co la vo nC par div dee use mrun nT due lat wk nE tk ld rule now st asl idn idl sp pe tin slp late srv hv av bd sh mL mB 0) H := hP
  have hD : va_D A (wM cI cJ cZ q pw co la vo nC par div dee use mrun nT due lat wk nE tk ld rule now st asl idn idl sp pe tin slp late srv hv av bd sh mL mB 0) := hD
  refine lv_aload_n hx hb dX8_available_5 rfl (lv_at hl 0 rfl) ?_
  refine va_get (D := (dC, dI)) (ci := 8) (v := .int (iI av)) (C := RX8) (T := TX8) (N := 36) hx hb hts hinX8 hown hK.1 hP 0 rfl rfl 30 (by decide) (hts _ (List.mem_of_getElem? (i := 2) rfl)) (fun _ h9 => h9) rfl dX8_available_6 ?_
  subst hQ
  exact zret_i (W1 := fun _ : Unit => wM cI cJ cZ q pw co la vo nC par div dee use mrun nT due lat wk nE tk ld rule now st asl idn idl sp pe tin slp late srv hv av bd sh mL mB 0) () hx hb hr hP hD hS hlocks dX8_available_9 (by rfl)
def rmX8_bound : Room := { frames := 0, cells := 0, slots := 0, locals := 0 }
set_option maxRecDepth 100000 in
set_option maxHeartbeats 4000000 in
theorem kX8_bound (l : Launch) (dC : Nat → ClassId) (dI : Nat → Nat → Nat) (cI cJ cZ : ClassId) (q : Nat → Nat)  (pw : Int → Int) (co : Int → Int) (la : Int → Int) (vo : Int → Int) (nC : Int) (par : Int → Int) (div : Int → Int) (dee : Int → Int) (use : Int → Int) (mrun : Int → Int) (nT : Int) (due : Int → Int) (lat : Int → Int) (wk : Int → Int) (nE : Int) (tk : Int → Int) (ld : Int → Int) (rule : Int) (now : Int) (st : Int) (asl : Int) (idn : Int) (idl : Int → Int) (sp : Int) (pe : Int) (tin : Int → Int) (slp : Int) (late : Int) (srv : Int) (hv : Int → Int) (av : Int) (bd : Int) (sh : Int) (mL : Int → Int) (mB : Int → Int) (thr : Int)  : zMi l yX8_bound wsX8_bound rmX8_bound (dC, dI) (zT cI cJ cZ) (wM cI cJ cZ q pw co la vo nC par div dee use mrun nT due lat wk nE tk ld rule now st asl idn idl sp pe tin slp late srv hv av bd sh mL mB thr) [.ref (q 0)] (fun (r9 : Int) (_ : Unit) => r9 = bd) (fun _ : Unit => wM cI cJ cZ q pw co la vo nC par div dee use mrun nT due lat wk nE tk ld rule now st asl idn idl sp pe tin slp late srv hv av bd sh mL mB 0) 0 0 := by
  refine zent_i (cc := cX8_bound) (maxL := 1) (ret := (some .int)) (by decide +kernel) rfl (Nat.le_of_ble_eq_true rfl) ?_
  intro p e s m below meth c A ls hE hP hK hA hD hS hl
  obtain ⟨hx, hb, hr, hml, hown, hts, hlocks, hmn⟩ := hE
  have hinX8 : ∀ w ∈ u_ws RX8 TX8 36, w ∈ wsX8_bound := by decide +kernel
  have hl : lv_has ls 1 [(0, .ref (q 0))] := hl
  refine z_gen (fun Q hQ => ?_)
  refine lv_aload_n hx hb dX8_bound_0 rfl (lv_at hl 0 rfl) ?_
  refine lv_iconst (v := iI 0) hx hb dX8_bound_1 rfl ?_
  refine va_put (D := (dC, dI)) (ci := 8) (v := .int (iI 0)) (ty := .int) (C := RX8) (T := TX8) (N := 36) hx hb hts hinX8 tyX8 tyX8_ok nmX8 hown hK.1 hP hD hS 0 rfl rfl 35 (by decide) (hts _ (List.mem_of_getElem? (i := 1) rfl)) (fun _ h9 => h9) rfl (by decide +kernel) rfl rfl (Nat.le_of_ble_eq_true rfl) dX8_bound_2 (fun H locs hP hD hS => ?_)
  have hP : va_P (dC, dI) vwCl (wM cI cJ cZ q pw co la vo nC par div dee use mrun nT due lat wk nE tk ld rule now st asl idn idl sp pe tin slp late srv hv av bd sh mL mB 0) H := hP
  have hD : va_D A (wM cI cJ cZ q pw co la vo nC par div dee use mrun nT due lat wk nE tk ld rule now st asl idn idl sp pe tin slp late srv hv av bd sh mL mB 0) := hD
  refine lv_aload_n hx hb dX8_bound_5 rfl (lv_at hl 0 rfl) ?_
  refine va_get (D := (dC, dI)) (ci := 8) (v := .int (iI bd)) (C := RX8) (T := TX8) (N := 36) hx hb hts hinX8 hown hK.1 hP 0 rfl rfl 31 (by decide) (hts _ (List.mem_of_getElem? (i := 2) rfl)) (fun _ h9 => h9) rfl dX8_bound_6 ?_
  subst hQ
  exact zret_i (W1 := fun _ : Unit => wM cI cJ cZ q pw co la vo nC par div dee use mrun nT due lat wk nE tk ld rule now st asl idn idl sp pe tin slp late srv hv av bd sh mL mB 0) () hx hb hr hP hD hS hlocks dX8_bound_9 (by rfl)
def rmX8_shortTicks : Room := { frames := 0, cells := 0, slots := 0, locals := 0 }
set_option maxRecDepth 100000 in
set_option maxHeartbeats 4000000 in
theorem kX8_shortTicks (l : Launch) (dC : Nat → ClassId) (dI : Nat → Nat → Nat) (cI cJ cZ : ClassId) (q : Nat → Nat)  (pw : Int → Int) (co : Int → Int) (la : Int → Int) (vo : Int → Int) (nC : Int) (par : Int → Int) (div : Int → Int) (dee : Int → Int) (use : Int → Int) (mrun : Int → Int) (nT : Int) (due : Int → Int) (lat : Int → Int) (wk : Int → Int) (nE : Int) (tk : Int → Int) (ld : Int → Int) (rule : Int) (now : Int) (st : Int) (asl : Int) (idn : Int) (idl : Int → Int) (sp : Int) (pe : Int) (tin : Int → Int) (slp : Int) (late : Int) (srv : Int) (hv : Int → Int) (av : Int) (bd : Int) (sh : Int) (mL : Int → Int) (mB : Int → Int) (thr : Int)  : zMi l yX8_shortTicks wsX8_shortTicks rmX8_shortTicks (dC, dI) (zT cI cJ cZ) (wM cI cJ cZ q pw co la vo nC par div dee use mrun nT due lat wk nE tk ld rule now st asl idn idl sp pe tin slp late srv hv av bd sh mL mB thr) [.ref (q 0)] (fun (r9 : Int) (_ : Unit) => r9 = sh) (fun _ : Unit => wM cI cJ cZ q pw co la vo nC par div dee use mrun nT due lat wk nE tk ld rule now st asl idn idl sp pe tin slp late srv hv av bd sh mL mB 0) 0 0 := by
  refine zent_i (cc := cX8_shortTicks) (maxL := 1) (ret := (some .int)) (by decide +kernel) rfl (Nat.le_of_ble_eq_true rfl) ?_
  intro p e s m below meth c A ls hE hP hK hA hD hS hl
  obtain ⟨hx, hb, hr, hml, hown, hts, hlocks, hmn⟩ := hE
  have hinX8 : ∀ w ∈ u_ws RX8 TX8 36, w ∈ wsX8_shortTicks := by decide +kernel
  have hl : lv_has ls 1 [(0, .ref (q 0))] := hl
  refine z_gen (fun Q hQ => ?_)
  refine lv_aload_n hx hb dX8_shortTicks_0 rfl (lv_at hl 0 rfl) ?_
  refine lv_iconst (v := iI 0) hx hb dX8_shortTicks_1 rfl ?_
  refine va_put (D := (dC, dI)) (ci := 8) (v := .int (iI 0)) (ty := .int) (C := RX8) (T := TX8) (N := 36) hx hb hts hinX8 tyX8 tyX8_ok nmX8 hown hK.1 hP hD hS 0 rfl rfl 35 (by decide) (hts _ (List.mem_of_getElem? (i := 1) rfl)) (fun _ h9 => h9) rfl (by decide +kernel) rfl rfl (Nat.le_of_ble_eq_true rfl) dX8_shortTicks_2 (fun H locs hP hD hS => ?_)
  have hP : va_P (dC, dI) vwCl (wM cI cJ cZ q pw co la vo nC par div dee use mrun nT due lat wk nE tk ld rule now st asl idn idl sp pe tin slp late srv hv av bd sh mL mB 0) H := hP
  have hD : va_D A (wM cI cJ cZ q pw co la vo nC par div dee use mrun nT due lat wk nE tk ld rule now st asl idn idl sp pe tin slp late srv hv av bd sh mL mB 0) := hD
  refine lv_aload_n hx hb dX8_shortTicks_5 rfl (lv_at hl 0 rfl) ?_
  refine va_get (D := (dC, dI)) (ci := 8) (v := .int (iI sh)) (C := RX8) (T := TX8) (N := 36) hx hb hts hinX8 hown hK.1 hP 0 rfl rfl 32 (by decide) (hts _ (List.mem_of_getElem? (i := 2) rfl)) (fun _ h9 => h9) rfl dX8_shortTicks_6 ?_
  subst hQ
  exact zret_i (W1 := fun _ : Unit => wM cI cJ cZ q pw co la vo nC par div dee use mrun nT due lat wk nE tk ld rule now st asl idn idl sp pe tin slp late srv hv av bd sh mL mB 0) () hx hb hr hP hD hS hlocks dX8_shortTicks_9 (by rfl)
def rmX8_spent : Room := { frames := 0, cells := 0, slots := 0, locals := 0 }
set_option maxRecDepth 100000 in
set_option maxHeartbeats 4000000 in
theorem kX8_spent (l : Launch) (dC : Nat → ClassId) (dI : Nat → Nat → Nat) (cI cJ cZ : ClassId) (q : Nat → Nat)  (pw : Int → Int) (co : Int → Int) (la : Int → Int) (vo : Int → Int) (nC : Int) (par : Int → Int) (div : Int → Int) (dee : Int → Int) (use : Int → Int) (mrun : Int → Int) (nT : Int) (due : Int → Int) (lat : Int → Int) (wk : Int → Int) (nE : Int) (tk : Int → Int) (ld : Int → Int) (rule : Int) (now : Int) (st : Int) (asl : Int) (idn : Int) (idl : Int → Int) (sp : Int) (pe : Int) (tin : Int → Int) (slp : Int) (late : Int) (srv : Int) (hv : Int → Int) (av : Int) (bd : Int) (sh : Int) (mL : Int → Int) (mB : Int → Int) (thr : Int)  : zMl l yX8_spent wsX8_spent rmX8_spent (dC, dI) (zT cI cJ cZ) (wM cI cJ cZ q pw co la vo nC par div dee use mrun nT due lat wk nE tk ld rule now st asl idn idl sp pe tin slp late srv hv av bd sh mL mB thr) [.ref (q 0)] (fun (r9 : Int) (_ : Unit) => r9 = sp) (fun _ : Unit => wM cI cJ cZ q pw co la vo nC par div dee use mrun nT due lat wk nE tk ld rule now st asl idn idl sp pe tin slp late srv hv av bd sh mL mB 0) 0 0 := by
  refine zent_l (cc := cX8_spent) (maxL := 1) (ret := (some .long)) (by decide +kernel) rfl (Nat.le_of_ble_eq_true rfl) ?_
  intro p e s m below meth c A ls hE hP hK hA hD hS hl
  obtain ⟨hx, hb, hr, hml, hown, hts, hlocks, hmn⟩ := hE
  have hinX8 : ∀ w ∈ u_ws RX8 TX8 36, w ∈ wsX8_spent := by decide +kernel
  have hl : lv_has ls 1 [(0, .ref (q 0))] := hl
  refine z_gen (fun Q hQ => ?_)
  refine lv_aload_n hx hb dX8_spent_0 rfl (lv_at hl 0 rfl) ?_
  refine lv_iconst (v := iI 0) hx hb dX8_spent_1 rfl ?_
  refine va_put (D := (dC, dI)) (ci := 8) (v := .int (iI 0)) (ty := .int) (C := RX8) (T := TX8) (N := 36) hx hb hts hinX8 tyX8 tyX8_ok nmX8 hown hK.1 hP hD hS 0 rfl rfl 35 (by decide) (hts _ (List.mem_of_getElem? (i := 1) rfl)) (fun _ h9 => h9) rfl (by decide +kernel) rfl rfl (Nat.le_of_ble_eq_true rfl) dX8_spent_2 (fun H locs hP hD hS => ?_)
  have hP : va_P (dC, dI) vwCl (wM cI cJ cZ q pw co la vo nC par div dee use mrun nT due lat wk nE tk ld rule now st asl idn idl sp pe tin slp late srv hv av bd sh mL mB 0) H := hP
  have hD : va_D A (wM cI cJ cZ q pw co la vo nC par div dee use mrun nT due lat wk nE tk ld rule now st asl idn idl sp pe tin slp late srv hv av bd sh mL mB 0) := hD
  refine lv_aload_n hx hb dX8_spent_5 rfl (lv_at hl 0 rfl) ?_
  refine va_get (D := (dC, dI)) (ci := 8) (v := .long (lI sp)) (C := RX8) (T := TX8) (N := 36) hx hb hts hinX8 hown hK.1 hP 0 rfl rfl 23 (by decide) (hts _ (List.mem_of_getElem? (i := 2) rfl)) (fun _ h9 => h9) rfl dX8_spent_6 ?_
  subst hQ
  exact zret_l (W1 := fun _ : Unit => wM cI cJ cZ q pw co la vo nC par div dee use mrun nT due lat wk nE tk ld rule now st asl idn idl sp pe tin slp late srv hv av bd sh mL mB 0) () hx hb hr hP hD hS hlocks dX8_spent_9 (by rfl)
def rmX8_nextWakeup : Room := { frames := 1, cells := 0, slots := 0, locals := 22 }
set_option maxRecDepth 100000 in
set_option maxHeartbeats 4000000 in
theorem kX8_nextWakeup (l : Launch) (dC : Nat → ClassId) (dI : Nat → Nat → Nat) (cI cJ cZ : ClassId) (q : Nat → Nat)  (pw : Int → Int) (co : Int → Int) (la : Int → Int) (vo : Int → Int) (nC : Int) (par : Int → Int) (div : Int → Int) (dee : Int → Int) (use : Int → Int) (mrun : Int → Int) (nT : Int) (due : Int → Int) (lat : Int → Int) (wk : Int → Int) (nE : Int) (tk : Int → Int) (ld : Int → Int) (rule : Int) (now : Int) (st : Int) (asl : Int) (idn : Int) (idl : Int → Int) (sp : Int) (pe : Int) (tin : Int → Int) (slp : Int) (late : Int) (srv : Int) (hv : Int → Int) (av : Int) (bd : Int) (sh : Int) (mL : Int → Int) (mB : Int → Int) (thr : Int) (hnT : 0 ≤ nT ∧ nT ≤ 12) (htd : rgZ due 12 1000000) (htl : rgZ lat 12 1000000) (htw : rgZ wk 12 50) : zMi l yX8_nextWakeup wsX8_nextWakeup rmX8_nextWakeup (dC, dI) (zT cI cJ cZ) (wM cI cJ cZ q pw co la vo nC par div dee use mrun nT due lat wk nE tk ld rule now st asl idn idl sp pe tin slp late srv hv av bd sh mL mB thr) [.ref (q 0)] (fun (r9 : Int) (_ : Unit) => r9 = if nT = 0 then -1 else nxZ lat nT) (fun _ : Unit => wM cI cJ cZ q pw co la vo nC par div dee use mrun nT due lat wk nE tk ld rule now st asl idn idl sp pe tin slp late srv hv av bd sh mL mB 0) 0 0 := by
  refine zent_i (cc := cX8_nextWakeup) (maxL := 1) (ret := (some .int)) (by decide +kernel) rfl (Nat.le_of_ble_eq_true rfl) ?_
  intro p e s m below meth c A ls hE hP hK hA hD hS hl
  obtain ⟨hx, hb, hr, hml, hown, hts, hlocks, hmn⟩ := hE
  have hinX8 : ∀ w ∈ u_ws RX8 TX8 36, w ∈ wsX8_nextWakeup := by decide +kernel
  have hl : lv_has ls 1 [(0, .ref (q 0))] := hl
  refine z_gen (fun Q hQ => ?_)
  refine lv_aload_n hx hb dX8_nextWakeup_0 rfl (lv_at hl 0 rfl) ?_
  refine lv_iconst (v := iI 0) hx hb dX8_nextWakeup_1 rfl ?_
  refine va_put (D := (dC, dI)) (ci := 8) (v := .int (iI 0)) (ty := .int) (C := RX8) (T := TX8) (N := 36) hx hb hts hinX8 tyX8 tyX8_ok nmX8 hown hK.1 hP hD hS 0 rfl rfl 35 (by decide) (hts _ (List.mem_of_getElem? (i := 1) rfl)) (fun _ h9 => h9) rfl (by decide +kernel) rfl rfl (Nat.le_of_ble_eq_true rfl) dX8_nextWakeup_2 (fun H locs hP hD hS => ?_)
  have hP : va_P (dC, dI) vwCl (wM cI cJ cZ q pw co la vo nC par div dee use mrun nT due lat wk nE tk ld rule now st asl idn idl sp pe tin slp late srv hv av bd sh mL mB 0) H := hP
  have hD : va_D A (wM cI cJ cZ q pw co la vo nC par div dee use mrun nT due lat wk nE tk ld rule now st asl idn idl sp pe tin slp late srv hv av bd sh mL mB 0) := hD
  refine lv_aload_n hx hb dX8_nextWakeup_5 rfl (lv_at hl 0 rfl) ?_
  refine va_get (D := (dC, dI)) (ci := 8) (v := .int (iI nT)) (C := RX8) (T := TX8) (N := 36) hx hb hts hinX8 hown hK.1 hP 0 rfl rfl 10 (by decide) (hts _ (List.mem_of_getElem? (i := 2) rfl)) (fun _ h9 => h9) rfl dX8_nextWakeup_6 ?_
  refine zi_fne (tgt := 16) hx hb (by omega) dX8_nextWakeup_9 (by decide) (fun c_1 => ?_) (fun c_1 => ?_)
  · skip
    refine lv_aload_n hx hb dX8_nextWakeup_16 rfl (lv_at hl 0 rfl) ?_
    refine zc_pi (va_runV (As := []) (rest := []) ⟨hx, hb, hml, hown, hts⟩ (kX8_next l dC dI cI cJ cZ q pw co la vo nC par div dee use mrun nT due lat wk nE tk ld rule now st asl idn idl sp pe tin slp late srv hv av bd sh mL mB 0 (by first | assumption | omega | exact b2i_01 _) (by first | assumption | omega | exact b2i_01 _) (by first | assumption | omega | exact b2i_01 _) (by first | assumption | omega | exact b2i_01 _)) (cwV 0 hts gX8_nextWakeup_X8_next rfl rfl rfl (by decide +kernel) ⟨Nat.le_of_ble_eq_true rfl, Nat.le_of_ble_eq_true rfl⟩) (zqV hK hP [0, 1, 2, 3, 4, 5, 6, 7, 8, 9, 10, 11, 12, 13, 14, 15, 16, 17, 18, 19] rfl 0 rfl rfl) rfl rfl hl.1 rfl (lv_room (Nat.le_of_ble_eq_true rfl)) dX8_nextWakeup_17 ⟨Nat.le_of_ble_eq_true rfl, Nat.le_of_ble_eq_true rfl⟩) ?_
    subst hQ
    exact zret_i (W1 := fun _ : Unit => wM cI cJ cZ q pw co la vo nC par div dee use mrun nT due lat wk nE tk ld rule now st asl idn idl sp pe tin slp late srv hv av bd sh mL mB 0) () hx hb hr hP hD hS hlocks dX8_nextWakeup_20 (by first | (exact (if_pos (by omega)).symm) | (exact (if_neg (by omega)).symm))
  · skip
    refine lv_iconst (v := iI (-1)) hx hb dX8_nextWakeup_12 rfl ?_
    refine lv_goto (tgt := 20) hx hb dX8_nextWakeup_13 (by decide) ?_
    subst hQ
    exact zret_i (W1 := fun _ : Unit => wM cI cJ cZ q pw co la vo nC par div dee use mrun nT due lat wk nE tk ld rule now st asl idn idl sp pe tin slp late srv hv av bd sh mL mB 0) () hx hb hr hP hD hS hlocks dX8_nextWakeup_20 (by first | (exact (if_pos (by omega)).symm) | (exact (if_neg (by omega)).symm))
def rmX8_isReach : Room := { frames := 0, cells := 0, slots := 0, locals := 0 }
set_option maxRecDepth 100000 in
set_option maxHeartbeats 4000000 in
theorem kX8_isReach (l : Launch) (dC : Nat → ClassId) (dI : Nat → Nat → Nat) (cI cJ cZ : ClassId) (q : Nat → Nat)  (pw : Int → Int) (co : Int → Int) (la : Int → Int) (vo : Int → Int) (nC : Int) (par : Int → Int) (div : Int → Int) (dee : Int → Int) (use : Int → Int) (mrun : Int → Int) (nT : Int) (due : Int → Int) (lat : Int → Int) (wk : Int → Int) (nE : Int) (tk : Int → Int) (ld : Int → Int) (rule : Int) (now : Int) (st : Int) (asl : Int) (idn : Int) (idl : Int → Int) (sp : Int) (pe : Int) (tin : Int → Int) (slp : Int) (late : Int) (srv : Int) (hv : Int → Int) (av : Int) (bd : Int) (sh : Int) (mL : Int → Int) (mB : Int → Int) (thr : Int) (x1 : Int) (hnow : 0 ≤ now ∧ now ≤ 200000) (hx1 : zR x1) : zPi l yX8_isReach wsX8_isReach rmX8_isReach (dC, dI) (zT cI cJ cZ) (wM cI cJ cZ q pw co la vo nC par div dee use mrun nT due lat wk nE tk ld rule now st asl idn idl sp pe tin slp late srv hv av bd sh mL mB thr) [.ref (q 0), .int (iI x1)] (b2i (now ≤ x1 ∧ x1 ≤ now + 400)) := by
  refine zent_pi (cc := cX8_isReach) (maxL := 2) (ret := (some .boolean)) (by decide +kernel) rfl (Nat.le_of_ble_eq_true rfl) ?_
  intro p e s m below meth c ls hE hP hK hl
  obtain ⟨hx, hb, hr, hml, hown, hts, hlocks, hmn⟩ := hE
  have hinX8 : ∀ w ∈ u_ws RX8 TX8 36, w ∈ wsX8_isReach := by decide +kernel
  have hl : lv_has ls 2 [(0, .ref (q 0)), (1, .int (iI x1))] := hl
  refine z_gen (fun Q hQ => ?_)
  refine lv_iload_n hx hb dX8_isReach_0 rfl (lv_at hl 1 rfl) ?_
  refine lv_aload_n hx hb dX8_isReach_1 rfl (lv_at hl 0 rfl) ?_
  refine va_get (D := (dC, dI)) (ci := 8) (v := .int (iI now)) (C := RX8) (T := TX8) (N := 36) hx hb hts hinX8 hown hK.1 hP 0 rfl rfl 18 (by decide) (hts _ (List.mem_of_getElem? (i := 1) rfl)) (fun _ h9 => h9) rfl dX8_isReach_2 ?_
  refine zi_clt (tgt := 24) hx hb (by omega) (by omega) dX8_isReach_5 (by decide) (fun c_1 => ?_) (fun c_1 => ?_)
  · skip
    refine lv_iconst (v := iI 0) hx hb dX8_isReach_24 rfl ?_
    subst hQ
    exact zret_pz hx hb hr hlocks dX8_isReach_25 (by first | decide | omega) (by first | exact (b2i_t ⟨by omega, by omega⟩).symm | exact (b2i_f (by omega)).symm)
  · skip
    refine lv_iload_n hx hb dX8_isReach_8 rfl (lv_at hl 1 rfl) ?_
    refine lv_aload_n hx hb dX8_isReach_9 rfl (lv_at hl 0 rfl) ?_
    refine va_get (D := (dC, dI)) (ci := 8) (v := .int (iI now)) (C := RX8) (T := TX8) (N := 36) hx hb hts hinX8 hown hK.1 hP 0 rfl rfl 18 (by decide) (hts _ (List.mem_of_getElem? (i := 1) rfl)) (fun _ h9 => h9) rfl dX8_isReach_10 ?_
    refine lv_sipush (v := iI 400) hx hb dX8_isReach_13 (by decide) ?_
    refine zi_add hx hb dX8_isReach_16 ?_
    refine zi_cgt (tgt := 24) hx hb (by omega) (by omega) dX8_isReach_17 (by decide) (fun c_2 => ?_) (fun c_2 => ?_)
    · skip
      refine lv_iconst (v := iI 0) hx hb dX8_isReach_24 rfl ?_
      subst hQ
      exact zret_pz hx hb hr hlocks dX8_isReach_25 (by first | decide | omega) (by first | exact (b2i_t ⟨by omega, by omega⟩).symm | exact (b2i_f (by omega)).symm)
    · skip
      refine lv_iconst (v := iI 1) hx hb dX8_isReach_20 rfl ?_
      refine lv_goto (tgt := 25) hx hb dX8_isReach_21 (by decide) ?_
      subst hQ
      exact zret_pz hx hb hr hlocks dX8_isReach_25 (by first | decide | omega) (by first | exact (b2i_t ⟨by omega, by omega⟩).symm | exact (b2i_f (by omega)).symm)
def rmX8_nextPlanned : Room := { frames := 0, cells := 0, slots := 0, locals := 0 }
set_option maxRecDepth 100000 in
set_option maxHeartbeats 4000000 in
theorem kX8_nextPlanned (l : Launch) (dC : Nat → ClassId) (dI : Nat → Nat → Nat) (cI cJ cZ : ClassId) (q : Nat → Nat)  (pw : Int → Int) (co : Int → Int) (la : Int → Int) (vo : Int → Int) (nC : Int) (par : Int → Int) (div : Int → Int) (dee : Int → Int) (use : Int → Int) (mrun : Int → Int) (nT : Int) (due : Int → Int) (lat : Int → Int) (wk : Int → Int) (nE : Int) (tk : Int → Int) (ld : Int → Int) (rule : Int) (now : Int) (st : Int) (asl : Int) (idn : Int) (idl : Int → Int) (sp : Int) (pe : Int) (tin : Int → Int) (slp : Int) (late : Int) (srv : Int) (hv : Int → Int) (av : Int) (bd : Int) (sh : Int) (mL : Int → Int) (mB : Int → Int) (thr : Int) (ls9 un : Int) (hnT : 0 ≤ nT ∧ nT ≤ 12) (htd : rgZ due 12 1000000) (htl : rgZ lat 12 1000000) (htw : rgZ wk 12 50) (hls : -1 ≤ ls9 ∧ ls9 ≤ 1000000) (hun : 0 ≤ un ∧ un ≤ 1000000) : zPi l yX8_nextPlanned wsX8_nextPlanned rmX8_nextPlanned (dC, dI) (zT cI cJ cZ) (wM cI cJ cZ q pw co la vo nC par div dee use mrun nT due lat wk nE tk ld rule now st asl idn idl sp pe tin slp late srv hv av bd sh mL mB thr) [.ref (q 0), .int (iI ls9), .int (iI un)] (npZ due lat ls9 un nT) := by
  refine zent_pi (cc := cX8_nextPlanned) (maxL := 5) (ret := (some .int)) (by decide +kernel) rfl (Nat.le_of_ble_eq_true rfl) ?_
  intro p e s m below meth c ls hE hP hK hl
  obtain ⟨hx, hb, hr, hml, hown, hts, hlocks, hmn⟩ := hE
  have hinX8 : ∀ w ∈ u_ws RX8 TX8 36, w ∈ wsX8_nextPlanned := by decide +kernel
  have hl : lv_has ls 5 [(0, .ref (q 0)), (1, .int (iI ls9)), (2, .int (iI un))] := hl
  refine z_gen (fun Q hQ => ?_)
  refine lv_iload_n hx hb dX8_nextPlanned_0 rfl (lv_at hl 2 rfl) ?_
  refine lv_istore_n (lv' := [(3, .int (iI un)), (0, .ref (q 0)), (1, .int (iI ls9)), (2, .int (iI un))]) hx hb dX8_nextPlanned_1 rfl hl (by decide) rfl (fun ls hl => ?_)
  refine lv_iconst (v := iI 0) hx hb dX8_nextPlanned_2 rfl ?_
  refine lv_istore (lv' := [(4, .int (iI 0)), (3, .int (iI un)), (0, .ref (q 0)), (1, .int (iI ls9)), (2, .int (iI un))]) hx hb dX8_nextPlanned_3 hl (by decide) rfl (fun ls hl => ?_)
  have L5 : ∀ (fuel : Nat) (k : Int) (x : Int), (0 ≤ k ∧ k ≤ nT) → (0 ≤ x ∧ x ≤ 1000000) → (x = npZ due lat ls9 un k) → ((nT - k).toNat) < fuel → ∀ ls : Array Slot, lv_has ls 5 [(4, .int (iI k)), (3, .int (iI x)), (0, .ref (q 0)), (1, .int (iI ls9)), (2, .int (iI un))] → W p l e rmX8_nextPlanned s m ([.ref (q 0), .int (iI ls9), .int (iI un)] : List Value).toArray below meth c s.heap [] 0 0 Q (F0 m 5 ls []) := by
    intro fuel
    induction fuel with
    | zero =>
      intro k x hk hxr hI hmeas ls hl
      exact absurd hmeas (by omega)
    | succ fuel ih =>
      intro k x hk hxr hI hmeas ls hl
      refine lv_iload hx hb dX8_nextPlanned_5 (lv_at hl 0 rfl) ?_
      refine lv_aload_n hx hb dX8_nextPlanned_7 rfl (lv_at hl 2 rfl) ?_
      refine va_get (D := (dC, dI)) (ci := 8) (v := .int (iI nT)) (C := RX8) (T := TX8) (N := 36) hx hb hts hinX8 hown hK.1 hP 0 rfl rfl 10 (by decide) (hts _ (List.mem_of_getElem? (i := 1) rfl)) (fun _ h9 => h9) rfl dX8_nextPlanned_8 ?_
      refine zi_cge (tgt := 54) hx hb (by omega) (by omega) dX8_nextPlanned_11 (by decide) (fun c_1 => ?_) (fun c_1 => ?_)
      · skip
        refine lv_iload_n hx hb dX8_nextPlanned_54 rfl (lv_at hl 1 rfl) ?_
        subst hQ
        exact zret_pi hx hb hr hlocks dX8_nextPlanned_55 (by (obtain rfl : k = nT := by omega); exact hI)
      · skip
        refine lv_aload_n hx hb dX8_nextPlanned_14 rfl (lv_at hl 2 rfl) ?_
        refine va_get (D := (dC, dI)) (ci := 8) (v := .ref (q 10)) (C := RX8) (T := TX8) (N := 36) hx hb hts hinX8 hown hK.1 hP 0 rfl rfl 11 (by decide) (hts _ (List.mem_of_getElem? (i := 2) rfl)) (fun _ h9 => h9) rfl dX8_nextPlanned_15 ?_
        refine lv_iload hx hb dX8_nextPlanned_18 (lv_at hl 0 rfl) ?_
        refine za_ld hx hb hK hP 10 0 rfl rfl (by omega) (by omega) dX8_nextPlanned_20 ?_
        have e_2 := htd k (by omega) (by omega)
        refine lv_iload_n hx hb dX8_nextPlanned_21 rfl (lv_at hl 3 rfl) ?_
        refine zi_cle (tgt := 46) hx hb (by omega) (by omega) dX8_nextPlanned_22 (by decide) (fun c_3 => ?_) (fun c_3 => ?_)
        · skip
          refine lv_iload_n hx hb dX8_nextPlanned_46 rfl (lv_at hl 1 rfl) ?_
          refine lv_istore_n (lv' := [(3, .int (iI x)), (4, .int (iI k)), (0, .ref (q 0)), (1, .int (iI ls9)), (2, .int (iI un))]) hx hb dX8_nextPlanned_47 rfl hl (by decide) rfl (fun ls hl => ?_)
          refine lv_iinc (v := iI (k + 1)) (lv' := [(4, .int (iI (k + 1))), (3, .int (iI x)), (0, .ref (q 0)), (1, .int (iI ls9)), (2, .int (iI un))]) hx hb dX8_nextPlanned_48 hl (k := 1) rfl (iI_add _ _) (by decide) rfl (fun ls hl => ?_)
          refine lv_goto (tgt := 5) hx hb dX8_nextPlanned_51 (by decide) ?_
          exact ih (k + 1) x (by omega) (by omega) (by unfold npZ at *; rw [foZ_s _ _ (by omega), ← hI]; unfold npF; first | (rw [if_pos (by omega)]; done) | (rw [if_neg (by omega)]; done)) (by omega) ls (lv_sub hl [0, 1, 2, 3, 4] rfl)
        · skip
          refine lv_aload_n hx hb dX8_nextPlanned_25 rfl (lv_at hl 2 rfl) ?_
          refine va_get (D := (dC, dI)) (ci := 8) (v := .ref (q 11)) (C := RX8) (T := TX8) (N := 36) hx hb hts hinX8 hown hK.1 hP 0 rfl rfl 12 (by decide) (hts _ (List.mem_of_getElem? (i := 3) rfl)) (fun _ h9 => h9) rfl dX8_nextPlanned_26 ?_
          refine lv_iload hx hb dX8_nextPlanned_29 (lv_at hl 0 rfl) ?_
          refine za_ld hx hb hK hP 11 0 rfl rfl (by omega) (by omega) dX8_nextPlanned_31 ?_
          have e_4 := htl k (by omega) (by omega)
          refine lv_iload_n hx hb dX8_nextPlanned_32 rfl (lv_at hl 1 rfl) ?_
          refine zi_cge (tgt := 46) hx hb (by omega) (by omega) dX8_nextPlanned_33 (by decide) (fun c_5 => ?_) (fun c_5 => ?_)
          · skip
            refine lv_iload_n hx hb dX8_nextPlanned_46 rfl (lv_at hl 1 rfl) ?_
            refine lv_istore_n (lv' := [(3, .int (iI x)), (4, .int (iI k)), (0, .ref (q 0)), (1, .int (iI ls9)), (2, .int (iI un))]) hx hb dX8_nextPlanned_47 rfl hl (by decide) rfl (fun ls hl => ?_)
            refine lv_iinc (v := iI (k + 1)) (lv' := [(4, .int (iI (k + 1))), (3, .int (iI x)), (0, .ref (q 0)), (1, .int (iI ls9)), (2, .int (iI un))]) hx hb dX8_nextPlanned_48 hl (k := 1) rfl (iI_add _ _) (by decide) rfl (fun ls hl => ?_)
            refine lv_goto (tgt := 5) hx hb dX8_nextPlanned_51 (by decide) ?_
            exact ih (k + 1) x (by omega) (by omega) (by unfold npZ at *; rw [foZ_s _ _ (by omega), ← hI]; unfold npF; first | (rw [if_pos (by omega)]; done) | (rw [if_neg (by omega)]; done)) (by omega) ls (lv_sub hl [0, 1, 2, 3, 4] rfl)
          · skip
            refine lv_aload_n hx hb dX8_nextPlanned_36 rfl (lv_at hl 2 rfl) ?_
            refine va_get (D := (dC, dI)) (ci := 8) (v := .ref (q 11)) (C := RX8) (T := TX8) (N := 36) hx hb hts hinX8 hown hK.1 hP 0 rfl rfl 12 (by decide) (hts _ (List.mem_of_getElem? (i := 3) rfl)) (fun _ h9 => h9) rfl dX8_nextPlanned_37 ?_
            refine lv_iload hx hb dX8_nextPlanned_40 (lv_at hl 0 rfl) ?_
            refine za_ld hx hb hK hP 11 0 rfl rfl (by omega) (by omega) dX8_nextPlanned_42 ?_
            have e_6 := htl k (by omega) (by omega)
            refine lv_goto (tgt := 47) hx hb dX8_nextPlanned_43 (by decide) ?_
            refine lv_istore_n (lv' := [(3, .int (iI (lat k))), (4, .int (iI k)), (0, .ref (q 0)), (1, .int (iI ls9)), (2, .int (iI un))]) hx hb dX8_nextPlanned_47 rfl hl (by decide) rfl (fun ls hl => ?_)
            refine lv_iinc (v := iI (k + 1)) (lv' := [(4, .int (iI (k + 1))), (3, .int (iI (lat k))), (0, .ref (q 0)), (1, .int (iI ls9)), (2, .int (iI un))]) hx hb dX8_nextPlanned_48 hl (k := 1) rfl (iI_add _ _) (by decide) rfl (fun ls hl => ?_)
            refine lv_goto (tgt := 5) hx hb dX8_nextPlanned_51 (by decide) ?_
            exact ih (k + 1) (lat k) (by omega) (by omega) (by unfold npZ at *; rw [foZ_s _ _ (by omega), ← hI]; unfold npF; first | (rw [if_pos (by omega)]; done) | (rw [if_neg (by omega)]; done)) (by omega) ls (lv_sub hl [0, 1, 2, 3, 4] rfl)
  exact L5 (_ + 1) 0 un (by omega) (by omega) (rfl) (Nat.lt_succ_self _) ls (lv_sub hl [0, 1, 2, 3, 4] rfl)
def rmX8_wakeups : Room := { frames := 1, cells := 0, slots := 0, locals := 24 }
set_option maxRecDepth 100000 in
set_option maxHeartbeats 4000000 in
theorem kX8_wakeups (l : Launch) (dC : Nat → ClassId) (dI : Nat → Nat → Nat) (cI cJ cZ : ClassId) (q : Nat → Nat)  (pw : Int → Int) (co : Int → Int) (la : Int → Int) (vo : Int → Int) (nC : Int) (par : Int → Int) (div : Int → Int) (dee : Int → Int) (use : Int → Int) (mrun : Int → Int) (nT : Int) (due : Int → Int) (lat : Int → Int) (wk : Int → Int) (nE : Int) (tk : Int → Int) (ld : Int → Int) (rule : Int) (now : Int) (st : Int) (asl : Int) (idn : Int) (idl : Int → Int) (sp : Int) (pe : Int) (tin : Int → Int) (slp : Int) (late : Int) (srv : Int) (hv : Int → Int) (av : Int) (bd : Int) (sh : Int) (mL : Int → Int) (mB : Int → Int) (thr : Int) (un : Int) (hnT : 0 ≤ nT ∧ nT ≤ 12) (htd : rgZ due 12 1000000) (htl : rgZ lat 12 1000000) (htw : rgZ wk 12 50) (hdl : ∀ k : Int, 0 ≤ k → k < nT → due k ≤ lat k) (hun : 0 ≤ un ∧ un ≤ 1000000) : zPi l yX8_wakeups wsX8_wakeups rmX8_wakeups (dC, dI) (zT cI cJ cZ) (wM cI cJ cZ q pw co la vo nC par div dee use mrun nT due lat wk nE tk ld rule now st asl idn idl sp pe tin slp late srv hv av bd sh mL mB thr) [.ref (q 0), .int (iI un)] (swN due lat un nT (un + 1).toNat (-1)) := by
  refine zent_pi (cc := cX8_wakeups) (maxL := 4) (ret := (some .int)) (by decide +kernel) rfl (Nat.le_of_ble_eq_true rfl) ?_
  intro p e s m below meth c ls hE hP hK hl
  obtain ⟨hx, hb, hr, hml, hown, hts, hlocks, hmn⟩ := hE
  have hinX8 : ∀ w ∈ u_ws RX8 TX8 36, w ∈ wsX8_wakeups := by decide +kernel
  have hl : lv_has ls 4 [(0, .ref (q 0)), (1, .int (iI un))] := hl
  refine z_gen (fun Q hQ => ?_)
  have hl8 : ∀ k : Int, 0 ≤ k → k < nT → 0 ≤ lat k := fun k h1 h2 => (htl k h1 (by omega)).1
  refine lv_iconst (v := iI 0) hx hb dX8_wakeups_0 rfl ?_
  refine lv_istore_n (lv' := [(2, .int (iI 0)), (0, .ref (q 0)), (1, .int (iI un))]) hx hb dX8_wakeups_1 rfl hl (by decide) rfl (fun ls hl => ?_)
  refine lv_aload_n hx hb dX8_wakeups_2 rfl (lv_at hl 1 rfl) ?_
  refine lv_iconst (v := iI (-1)) hx hb dX8_wakeups_3 rfl ?_
  refine lv_iload_n hx hb dX8_wakeups_4 rfl (lv_at hl 2 rfl) ?_
  refine zc_pi (va_runV (As := [.int (iI (-1)), .int (iI un)]) (rest := []) ⟨hx, hb, hml, hown, hts⟩ (kX8_nextPlanned l dC dI cI cJ cZ q pw co la vo nC par div dee use mrun nT due lat wk nE tk ld rule now st asl idn idl sp pe tin slp late srv hv av bd sh mL mB thr (-1) un (by first | assumption | omega | exact b2i_01 _) (by first | assumption | omega | exact b2i_01 _) (by first | assumption | omega | exact b2i_01 _) (by first | assumption | omega | exact b2i_01 _) (by first | assumption | omega | exact b2i_01 _) (by first | assumption | omega | exact b2i_01 _)) (cwV 2 hts gX8_wakeups_X8_nextPlanned rfl rfl rfl (by decide +kernel) ⟨Nat.le_of_ble_eq_true rfl, Nat.le_of_ble_eq_true rfl⟩) (zqV hK hP [0, 1, 2, 3, 4, 5, 6, 7, 8, 9, 10, 11, 12, 13, 14, 15, 16, 17, 18, 19] rfl 0 rfl rfl) rfl rfl hl.1 rfl (lv_room (Nat.le_of_ble_eq_true rfl)) dX8_wakeups_5 ⟨Nat.le_of_ble_eq_true rfl, Nat.le_of_ble_eq_true rfl⟩) ?_
  have e_1 := np_r (due := due) (last := (-1)) (un := un) hnT.1 hl8
  refine lv_istore_n (lv' := [(3, .int (iI (npZ due lat (-1) un nT))), (2, .int (iI 0)), (0, .ref (q 0)), (1, .int (iI un))]) hx hb dX8_wakeups_8 rfl hl (by decide) rfl (fun ls hl => ?_)
  have L9 : ∀ (fuel : Nat) (n9 : Int) (l9 : Int) (f9 : Nat), (0 ≤ n9 ∧ n9 + (un - l9) ≤ un) → (0 ≤ l9 ∧ l9 ≤ un ∧ un - l9 ≤ f9) → (swN due lat un nT (un + 1).toNat (-1) = n9 + (if l9 < un then 1 + swN due lat un nT f9 l9 else 0)) → ((un - l9).toNat) < fuel → ∀ ls : Array Slot, lv_has ls 4 [(3, .int (iI l9)), (2, .int (iI n9)), (0, .ref (q 0)), (1, .int (iI un))] → W p l e rmX8_wakeups s m ([.ref (q 0), .int (iI un)] : List Value).toArray below meth c s.heap [] 0 0 Q (F0 m 9 ls []) := by
    intro fuel
    induction fuel with
    | zero =>
      intro n9 l9 f9 hn9 hl9 hI hmeas ls hl
      exact absurd hmeas (by omega)
    | succ fuel ih =>
      intro n9 l9 f9 hn9 hl9 hI hmeas ls hl
      refine lv_iload_n hx hb dX8_wakeups_9 rfl (lv_at hl 0 rfl) ?_
      refine lv_iload_n hx hb dX8_wakeups_10 rfl (lv_at hl 3 rfl) ?_
      refine zi_cge (tgt := 27) hx hb (by omega) (by omega) dX8_wakeups_11 (by decide) (fun c_2 => ?_) (fun c_2 => ?_)
      · skip
        refine lv_iload_n hx hb dX8_wakeups_27 rfl (lv_at hl 1 rfl) ?_
        subst hQ
        exact zret_pi hx hb hr hlocks dX8_wakeups_28 (by rw [hI, if_neg (by omega)]; omega)
      · skip
        refine lv_iinc (v := iI (n9 + 1)) (lv' := [(2, .int (iI (n9 + 1))), (3, .int (iI l9)), (0, .ref (q 0)), (1, .int (iI un))]) hx hb dX8_wakeups_14 hl (k := 1) rfl (iI_add _ _) (by decide) rfl (fun ls hl => ?_)
        refine lv_aload_n hx hb dX8_wakeups_17 rfl (lv_at hl 2 rfl) ?_
        refine lv_iload_n hx hb dX8_wakeups_18 rfl (lv_at hl 1 rfl) ?_
        refine lv_iload_n hx hb dX8_wakeups_19 rfl (lv_at hl 3 rfl) ?_
        refine zc_pi (va_runV (As := [.int (iI l9), .int (iI un)]) (rest := []) ⟨hx, hb, hml, hown, hts⟩ (kX8_nextPlanned l dC dI cI cJ cZ q pw co la vo nC par div dee use mrun nT due lat wk nE tk ld rule now st asl idn idl sp pe tin slp late srv hv av bd sh mL mB thr l9 un (by first | assumption | omega | exact b2i_01 _) (by first | assumption | omega | exact b2i_01 _) (by first | assumption | omega | exact b2i_01 _) (by first | assumption | omega | exact b2i_01 _) (by first | assumption | omega | exact b2i_01 _) (by first | assumption | omega | exact b2i_01 _)) (cwV 2 hts gX8_wakeups_X8_nextPlanned rfl rfl rfl (by decide +kernel) ⟨Nat.le_of_ble_eq_true rfl, Nat.le_of_ble_eq_true rfl⟩) (zqV hK hP [0, 1, 2, 3, 4, 5, 6, 7, 8, 9, 10, 11, 12, 13, 14, 15, 16, 17, 18, 19] rfl 0 rfl rfl) rfl rfl hl.1 rfl (lv_room (Nat.le_of_ble_eq_true rfl)) dX8_wakeups_20 ⟨Nat.le_of_ble_eq_true rfl, Nat.le_of_ble_eq_true rfl⟩) ?_
        have e_3 := np_r (due := due) (last := l9) (un := un) hnT.1 hl8
        have hg9 := np_gt (un := un) hnT.1 hdl (last := l9) (by omega)
        refine lv_istore_n (lv' := [(3, .int (iI (npZ due lat l9 un nT))), (2, .int (iI (n9 + 1))), (0, .ref (q 0)), (1, .int (iI un))]) hx hb dX8_wakeups_23 rfl hl (by decide) rfl (fun ls hl => ?_)
        refine lv_goto (tgt := 9) hx hb dX8_wakeups_24 (by decide) ?_
        exact ih (n9 + 1) (npZ due lat l9 un nT) (f9 - 1) (by omega) (by omega) (by rw [hI, if_pos (by omega)]; by_cases q9 : npZ due lat l9 un nT < un; (focus (rw [if_pos q9, sw_y q9 (by omega)]; try omega)); (focus (rw [if_neg q9, sw_n q9]; try omega))) (by omega) ls (lv_sub hl [0, 1, 2, 3] rfl)
  exact L9 (_ + 1) 0 (npZ due lat (-1) un nT) un.toNat (by omega) (by omega) (by rw [show (un + 1).toNat = un.toNat + 1 by omega, Int.zero_add]; rfl) (Nat.lt_succ_self _) ls (lv_sub hl [0, 1, 2, 3] rfl)
def rmX8_plannedWakeups : Room := { frames := 2, cells := 0, slots := 0, locals := 47 }
set_option maxRecDepth 100000 in
set_option maxHeartbeats 4000000 in
theorem kX8_plannedWakeups (l : Launch) (dC : Nat → ClassId) (dI : Nat → Nat → Nat) (cI cJ cZ : ClassId) (q : Nat → Nat)  (pw : Int → Int) (co : Int → Int) (la : Int → Int) (vo : Int → Int) (nC : Int) (par : Int → Int) (div : Int → Int) (dee : Int → Int) (use : Int → Int) (mrun : Int → Int) (nT : Int) (due : Int → Int) (lat : Int → Int) (wk : Int → Int) (nE : Int) (tk : Int → Int) (ld : Int → Int) (rule : Int) (now : Int) (st : Int) (asl : Int) (idn : Int) (idl : Int → Int) (sp : Int) (pe : Int) (tin : Int → Int) (slp : Int) (late : Int) (srv : Int) (hv : Int → Int) (av : Int) (bd : Int) (sh : Int) (mL : Int → Int) (mB : Int → Int) (thr : Int) (x1 : Int) (hx1 : zR x1) (hnT : 0 ≤ nT ∧ nT ≤ 12) (htd : rgZ due 12 1000000) (htl : rgZ lat 12 1000000) (htw : rgZ wk 12 50) (hdl : ∀ k : Int, 0 ≤ k → k < nT → due k ≤ lat k) (hnow : 0 ≤ now ∧ now ≤ 200000) : zMi l yX8_plannedWakeups wsX8_plannedWakeups rmX8_plannedWakeups (dC, dI) (zT cI cJ cZ) (wM cI cJ cZ q pw co la vo nC par div dee use mrun nT due lat wk nE tk ld rule now st asl idn idl sp pe tin slp late srv hv av bd sh mL mB thr) [.ref (q 0), .int (iI x1)] (fun (r9 : Int) (u9 : Int × Int) => r9 = (u9.1) ∧ (((now ≤ x1 ∧ x1 ≤ now + 400) ∧ (u9.2) = 0 ∧ (u9.1) = swN due lat x1 nT (x1 + 1).toNat (-1)) ∨ (¬ (now ≤ x1 ∧ x1 ≤ now + 400) ∧ (u9.2) = 1))) (fun u9 : Int × Int => wM cI cJ cZ q pw co la vo nC par div dee use mrun nT due lat wk nE tk ld rule now st asl idn idl sp pe tin slp late srv hv av bd sh mL mB (u9.2)) 0 0 := by
  refine zent_i (cc := cX8_plannedWakeups) (maxL := 2) (ret := (some .int)) (by decide +kernel) rfl (Nat.le_of_ble_eq_true rfl) ?_
  intro p e s m below meth c A ls hE hP hK hA hD hS hl
  obtain ⟨hx, hb, hr, hml, hown, hts, hlocks, hmn⟩ := hE
  have hinX8 : ∀ w ∈ u_ws RX8 TX8 36, w ∈ wsX8_plannedWakeups := by decide +kernel
  have hl : lv_has ls 2 [(0, .ref (q 0)), (1, .int (iI x1))] := hl
  refine z_gen (fun Q hQ => ?_)
  refine lv_aload_n hx hb dX8_plannedWakeups_0 rfl (lv_at hl 0 rfl) ?_
  refine lv_aload_n hx hb dX8_plannedWakeups_1 rfl (lv_at hl 0 rfl) ?_
  refine lv_iload_n hx hb dX8_plannedWakeups_2 rfl (lv_at hl 1 rfl) ?_
  refine zc_pi (va_runV (As := [.int (iI x1)]) (rest := [.ref (q 0)]) ⟨hx, hb, hml, hown, hts⟩ (kX8_isReach l dC dI cI cJ cZ q pw co la vo nC par div dee use mrun nT due lat wk nE tk ld rule now st asl idn idl sp pe tin slp late srv hv av bd sh mL mB thr x1 (by first | assumption | omega | exact b2i_01 _) (by first | assumption | omega | exact b2i_01 _)) (cwV 1 hts gX8_plannedWakeups_X8_isReach rfl rfl rfl (by decide +kernel) ⟨Nat.le_of_ble_eq_true rfl, Nat.le_of_ble_eq_true rfl⟩) (zqV hK hP [0, 1, 2, 3, 4, 5, 6, 7, 8, 9, 10, 11, 12, 13, 14, 15, 16, 17, 18, 19] rfl 0 rfl rfl) rfl rfl hl.1 rfl (lv_room (Nat.le_of_ble_eq_true rfl)) dX8_plannedWakeups_3 ⟨Nat.le_of_ble_eq_true rfl, Nat.le_of_ble_eq_true rfl⟩) ?_
  refine zc_i (va_runV (As := [.int (iI (b2i (now ≤ x1 ∧ x1 ≤ now + 400)))]) (rest := []) ⟨hx, hb, hml, hown, hts⟩ (kX8_asks l dC dI cI cJ cZ q pw co la vo nC par div dee use mrun nT due lat wk nE tk ld rule now st asl idn idl sp pe tin slp late srv hv av bd sh mL mB thr (b2i (now ≤ x1 ∧ x1 ≤ now + 400)) (by first | assumption | omega | exact b2i_01 _) s.heap.size) (cwV 1 hts gX8_plannedWakeups_X8_asks rfl rfl rfl (by decide +kernel) ⟨Nat.le_of_ble_eq_true rfl, Nat.le_of_ble_eq_true rfl⟩) (zpV hK hP hD [0, 1, 2, 3, 4, 5, 6, 7, 8, 9, 10, 11, 12, 13, 14, 15, 16, 17, 18, 19] rfl rfl 0 rfl rfl) rfl rfl hl.1 rfl (lv_room (Nat.le_of_ble_eq_true rfl)) dX8_plannedWakeups_6 ⟨Nat.le_of_ble_eq_true rfl, Nat.le_of_ble_eq_true rfl⟩) hP hD hS hA [0, 1, 2, 3, 4, 5, 6, 7, 8, 9, 10, 11, 12, 13, 14, 15, 16, 17, 18, 19] [] rfl rfl rfl (by decide) (fun v_3 u_2 H locs r_1 hP hD hS => ?_)
  refine ze_i r_1 ?_
  have hP : va_P (dC, dI) vwCl (wM cI cJ cZ q pw co la vo nC par div dee use mrun nT due lat wk nE tk ld rule now st asl idn idl sp pe tin slp late srv hv av bd sh mL mB (1 - (b2i (now ≤ x1 ∧ x1 ≤ now + 400)))) H := hP
  have hD : va_D A (wM cI cJ cZ q pw co la vo nC par div dee use mrun nT due lat wk nE tk ld rule now st asl idn idl sp pe tin slp late srv hv av bd sh mL mB (1 - (b2i (now ≤ x1 ∧ x1 ≤ now + 400)))) := hD
  refine zb_feq (tgt := 20) hx hb dX8_plannedWakeups_9 (by decide) (fun c_4 => ?_) (fun c_4 => ?_)
  · skip
    refine lv_iconst (v := iI 0) hx hb dX8_plannedWakeups_20 rfl ?_
    subst hQ
    exact zret_i (W1 := fun u9 : Int × Int => wM cI cJ cZ q pw co la vo nC par div dee use mrun nT due lat wk nE tk ld rule now st asl idn idl sp pe tin slp late srv hv av bd sh mL mB (u9.2)) (0, 1 - (b2i (now ≤ x1 ∧ x1 ≤ now + 400))) hx hb hr hP hD hS hlocks dX8_plannedWakeups_21 (by first | (exact ⟨rfl, Or.inl (⟨by omega, by (first | rfl | (rw [b2i_t (by omega)]; done) | (rw [b2i_f (by omega)]; done) | (rw [b2i_t (by omega)]; rfl) | (rw [b2i_f (by omega)]; rfl)), by first | rfl | omega⟩)⟩) | (exact ⟨rfl, Or.inr (⟨by omega, by (first | rfl | (rw [b2i_t (by omega)]; done) | (rw [b2i_f (by omega)]; done) | (rw [b2i_t (by omega)]; rfl) | (rw [b2i_f (by omega)]; rfl))⟩)⟩))
  · skip
    refine lv_aload_n hx hb dX8_plannedWakeups_12 rfl (lv_at hl 0 rfl) ?_
    refine lv_iload_n hx hb dX8_plannedWakeups_13 rfl (lv_at hl 1 rfl) ?_
    refine zc_pi (va_runV (As := [.int (iI x1)]) (rest := []) ⟨hx, hb, hml, hown, hts⟩ (kX8_wakeups l dC dI cI cJ cZ q pw co la vo nC par div dee use mrun nT due lat wk nE tk ld rule now st asl idn idl sp pe tin slp late srv hv av bd sh mL mB (1 - (b2i (now ≤ x1 ∧ x1 ≤ now + 400))) x1 (by first | assumption | omega | exact b2i_01 _) (by first | assumption | omega | exact b2i_01 _) (by first | assumption | omega | exact b2i_01 _) (by first | assumption | omega | exact b2i_01 _) (by first | assumption | omega | exact b2i_01 _) (by first | assumption | omega | exact b2i_01 _)) (cwV 1 hts gX8_plannedWakeups_X8_wakeups rfl rfl rfl (by decide +kernel) ⟨Nat.le_of_ble_eq_true rfl, Nat.le_of_ble_eq_true rfl⟩) (zqV hK hP [0, 1, 2, 3, 4, 5, 6, 7, 8, 9, 10, 11, 12, 13, 14, 15, 16, 17, 18, 19] rfl 0 rfl rfl) rfl rfl hl.1 rfl (lv_room (Nat.le_of_ble_eq_true rfl)) dX8_plannedWakeups_14 ⟨Nat.le_of_ble_eq_true rfl, Nat.le_of_ble_eq_true rfl⟩) ?_
    refine lv_goto (tgt := 21) hx hb dX8_plannedWakeups_17 (by decide) ?_
    subst hQ
    exact zret_i (W1 := fun u9 : Int × Int => wM cI cJ cZ q pw co la vo nC par div dee use mrun nT due lat wk nE tk ld rule now st asl idn idl sp pe tin slp late srv hv av bd sh mL mB (u9.2)) (swN due lat x1 nT (x1 + 1).toNat (-1), 1 - (b2i (now ≤ x1 ∧ x1 ≤ now + 400))) hx hb hr hP hD hS hlocks dX8_plannedWakeups_21 (by first | (exact ⟨rfl, Or.inl (⟨by omega, by (first | rfl | (rw [b2i_t (by omega)]; done) | (rw [b2i_f (by omega)]; done) | (rw [b2i_t (by omega)]; rfl) | (rw [b2i_f (by omega)]; rfl)), by first | rfl | omega⟩)⟩) | (exact ⟨rfl, Or.inr (⟨by omega, by (first | rfl | (rw [b2i_t (by omega)]; done) | (rw [b2i_f (by omega)]; done) | (rw [b2i_t (by omega)]; rfl) | (rw [b2i_f (by omega)]; rfl))⟩)⟩))
def rmX8_fewestWakeups : Room := { frames := 2, cells := 0, slots := 0, locals := 47 }
set_option maxRecDepth 100000 in
set_option maxHeartbeats 4000000 in
theorem kX8_fewestWakeups (l : Launch) (dC : Nat → ClassId) (dI : Nat → Nat → Nat) (cI cJ cZ : ClassId) (q : Nat → Nat)  (pw : Int → Int) (co : Int → Int) (la : Int → Int) (vo : Int → Int) (nC : Int) (par : Int → Int) (div : Int → Int) (dee : Int → Int) (use : Int → Int) (mrun : Int → Int) (nT : Int) (due : Int → Int) (lat : Int → Int) (wk : Int → Int) (nE : Int) (tk : Int → Int) (ld : Int → Int) (rule : Int) (now : Int) (st : Int) (asl : Int) (idn : Int) (idl : Int → Int) (sp : Int) (pe : Int) (tin : Int → Int) (slp : Int) (late : Int) (srv : Int) (hv : Int → Int) (av : Int) (bd : Int) (sh : Int) (mL : Int → Int) (mB : Int → Int) (thr : Int) (x1 : Int) (hx1 : zR x1) (hnT : 0 ≤ nT ∧ nT ≤ 12) (htd : rgZ due 12 1000000) (htl : rgZ lat 12 1000000) (htw : rgZ wk 12 50) (hdl : ∀ k : Int, 0 ≤ k → k < nT → due k ≤ lat k) (hnow : 0 ≤ now ∧ now ≤ 200000) : zMi l yX8_fewestWakeups wsX8_fewestWakeups rmX8_fewestWakeups (dC, dI) (zT cI cJ cZ) (wM cI cJ cZ q pw co la vo nC par div dee use mrun nT due lat wk nE tk ld rule now st asl idn idl sp pe tin slp late srv hv av bd sh mL mB thr) [.ref (q 0), .int (iI x1)] (fun (r9 : Int) (u9 : Int × Int) => r9 = (u9.1) ∧ (((now ≤ x1 ∧ x1 ≤ now + 400) ∧ (u9.2) = 0 ∧ (u9.1) = swN due lat x1 nT (x1 + 1).toNat (-1)) ∨ (¬ (now ≤ x1 ∧ x1 ≤ now + 400) ∧ (u9.2) = 1))) (fun u9 : Int × Int => wM cI cJ cZ q pw co la vo nC par div dee use mrun nT due lat wk nE tk ld rule now st asl idn idl sp pe tin slp late srv hv av bd sh mL mB (u9.2)) 0 0 := by
  refine zent_i (cc := cX8_fewestWakeups) (maxL := 2) (ret := (some .int)) (by decide +kernel) rfl (Nat.le_of_ble_eq_true rfl) ?_
  intro p e s m below meth c A ls hE hP hK hA hD hS hl
  obtain ⟨hx, hb, hr, hml, hown, hts, hlocks, hmn⟩ := hE
  have hinX8 : ∀ w ∈ u_ws RX8 TX8 36, w ∈ wsX8_fewestWakeups := by decide +kernel
  have hl : lv_has ls 2 [(0, .ref (q 0)), (1, .int (iI x1))] := hl
  refine z_gen (fun Q hQ => ?_)
  refine lv_aload_n hx hb dX8_fewestWakeups_0 rfl (lv_at hl 0 rfl) ?_
  refine lv_aload_n hx hb dX8_fewestWakeups_1 rfl (lv_at hl 0 rfl) ?_
  refine lv_iload_n hx hb dX8_fewestWakeups_2 rfl (lv_at hl 1 rfl) ?_
  refine zc_pi (va_runV (As := [.int (iI x1)]) (rest := [.ref (q 0)]) ⟨hx, hb, hml, hown, hts⟩ (kX8_isReach l dC dI cI cJ cZ q pw co la vo nC par div dee use mrun nT due lat wk nE tk ld rule now st asl idn idl sp pe tin slp late srv hv av bd sh mL mB thr x1 (by first | assumption | omega | exact b2i_01 _) (by first | assumption | omega | exact b2i_01 _)) (cwV 1 hts gX8_fewestWakeups_X8_isReach rfl rfl rfl (by decide +kernel) ⟨Nat.le_of_ble_eq_true rfl, Nat.le_of_ble_eq_true rfl⟩) (zqV hK hP [0, 1, 2, 3, 4, 5, 6, 7, 8, 9, 10, 11, 12, 13, 14, 15, 16, 17, 18, 19] rfl 0 rfl rfl) rfl rfl hl.1 rfl (lv_room (Nat.le_of_ble_eq_true rfl)) dX8_fewestWakeups_3 ⟨Nat.le_of_ble_eq_true rfl, Nat.le_of_ble_eq_true rfl⟩) ?_
  refine zc_i (va_runV (As := [.int (iI (b2i (now ≤ x1 ∧ x1 ≤ now + 400)))]) (rest := []) ⟨hx, hb, hml, hown, hts⟩ (kX8_asks l dC dI cI cJ cZ q pw co la vo nC par div dee use mrun nT due lat wk nE tk ld rule now st asl idn idl sp pe tin slp late srv hv av bd sh mL mB thr (b2i (now ≤ x1 ∧ x1 ≤ now + 400)) (by first | assumption | omega | exact b2i_01 _) s.heap.size) (cwV 1 hts gX8_fewestWakeups_X8_asks rfl rfl rfl (by decide +kernel) ⟨Nat.le_of_ble_eq_true rfl, Nat.le_of_ble_eq_true rfl⟩) (zpV hK hP hD [0, 1, 2, 3, 4, 5, 6, 7, 8, 9, 10, 11, 12, 13, 14, 15, 16, 17, 18, 19] rfl rfl 0 rfl rfl) rfl rfl hl.1 rfl (lv_room (Nat.le_of_ble_eq_true rfl)) dX8_fewestWakeups_6 ⟨Nat.le_of_ble_eq_true rfl, Nat.le_of_ble_eq_true rfl⟩) hP hD hS hA [0, 1, 2, 3, 4, 5, 6, 7, 8, 9, 10, 11, 12, 13, 14, 15, 16, 17, 18, 19] [] rfl rfl rfl (by decide) (fun v_3 u_2 H locs r_1 hP hD hS => ?_)
  refine ze_i r_1 ?_
  have hP : va_P (dC, dI) vwCl (wM cI cJ cZ q pw co la vo nC par div dee use mrun nT due lat wk nE tk ld rule now st asl idn idl sp pe tin slp late srv hv av bd sh mL mB (1 - (b2i (now ≤ x1 ∧ x1 ≤ now + 400)))) H := hP
  have hD : va_D A (wM cI cJ cZ q pw co la vo nC par div dee use mrun nT due lat wk nE tk ld rule now st asl idn idl sp pe tin slp late srv hv av bd sh mL mB (1 - (b2i (now ≤ x1 ∧ x1 ≤ now + 400)))) := hD
  refine zb_feq (tgt := 20) hx hb dX8_fewestWakeups_9 (by decide) (fun c_4 => ?_) (fun c_4 => ?_)
  · skip
    refine lv_iconst (v := iI 0) hx hb dX8_fewestWakeups_20 rfl ?_
    subst hQ
    exact zret_i (W1 := fun u9 : Int × Int => wM cI cJ cZ q pw co la vo nC par div dee use mrun nT due lat wk nE tk ld rule now st asl idn idl sp pe tin slp late srv hv av bd sh mL mB (u9.2)) (0, 1 - (b2i (now ≤ x1 ∧ x1 ≤ now + 400))) hx hb hr hP hD hS hlocks dX8_fewestWakeups_21 (by first | (exact ⟨rfl, Or.inl (⟨by omega, by (first | rfl | (rw [b2i_t (by omega)]; done) | (rw [b2i_f (by omega)]; done) | (rw [b2i_t (by omega)]; rfl) | (rw [b2i_f (by omega)]; rfl)), by first | rfl | omega⟩)⟩) | (exact ⟨rfl, Or.inr (⟨by omega, by (first | rfl | (rw [b2i_t (by omega)]; done) | (rw [b2i_f (by omega)]; done) | (rw [b2i_t (by omega)]; rfl) | (rw [b2i_f (by omega)]; rfl))⟩)⟩))
  · skip
    refine lv_aload_n hx hb dX8_fewestWakeups_12 rfl (lv_at hl 0 rfl) ?_
    refine lv_iload_n hx hb dX8_fewestWakeups_13 rfl (lv_at hl 1 rfl) ?_
    refine zc_pi (va_runV (As := [.int (iI x1)]) (rest := []) ⟨hx, hb, hml, hown, hts⟩ (kX8_wakeups l dC dI cI cJ cZ q pw co la vo nC par div dee use mrun nT due lat wk nE tk ld rule now st asl idn idl sp pe tin slp late srv hv av bd sh mL mB (1 - (b2i (now ≤ x1 ∧ x1 ≤ now + 400))) x1 (by first | assumption | omega | exact b2i_01 _) (by first | assumption | omega | exact b2i_01 _) (by first | assumption | omega | exact b2i_01 _) (by first | assumption | omega | exact b2i_01 _) (by first | assumption | omega | exact b2i_01 _) (by first | assumption | omega | exact b2i_01 _)) (cwV 1 hts gX8_fewestWakeups_X8_wakeups rfl rfl rfl (by decide +kernel) ⟨Nat.le_of_ble_eq_true rfl, Nat.le_of_ble_eq_true rfl⟩) (zqV hK hP [0, 1, 2, 3, 4, 5, 6, 7, 8, 9, 10, 11, 12, 13, 14, 15, 16, 17, 18, 19] rfl 0 rfl rfl) rfl rfl hl.1 rfl (lv_room (Nat.le_of_ble_eq_true rfl)) dX8_fewestWakeups_14 ⟨Nat.le_of_ble_eq_true rfl, Nat.le_of_ble_eq_true rfl⟩) ?_
    refine lv_goto (tgt := 21) hx hb dX8_fewestWakeups_17 (by decide) ?_
    subst hQ
    exact zret_i (W1 := fun u9 : Int × Int => wM cI cJ cZ q pw co la vo nC par div dee use mrun nT due lat wk nE tk ld rule now st asl idn idl sp pe tin slp late srv hv av bd sh mL mB (u9.2)) (swN due lat x1 nT (x1 + 1).toNat (-1), 1 - (b2i (now ≤ x1 ∧ x1 ≤ now + 400))) hx hb hr hP hD hS hlocks dX8_fewestWakeups_21 (by first | (exact ⟨rfl, Or.inl (⟨by omega, by (first | rfl | (rw [b2i_t (by omega)]; done) | (rw [b2i_f (by omega)]; done) | (rw [b2i_t (by omega)]; rfl) | (rw [b2i_f (by omega)]; rfl)), by first | rfl | omega⟩)⟩) | (exact ⟨rfl, Or.inr (⟨by omega, by (first | rfl | (rw [b2i_t (by omega)]; done) | (rw [b2i_f (by omega)]; done) | (rw [b2i_t (by omega)]; rfl) | (rw [b2i_f (by omega)]; rfl))⟩)⟩))
def rmX8_play : Room := { frames := 5, cells := 0, slots := 0, locals := 110 }
set_option maxRecDepth 100000 in
set_option maxHeartbeats 4000000 in
theorem kX8_play (l : Launch) (dC : Nat → ClassId) (dI : Nat → Nat → Nat) (cI cJ cZ : ClassId) (q : Nat → Nat)  (pw : Int → Int) (co : Int → Int) (la : Int → Int) (vo : Int → Int) (nC : Int) (par : Int → Int) (div : Int → Int) (dee : Int → Int) (use : Int → Int) (mrun : Int → Int) (nT : Int) (due : Int → Int) (lat : Int → Int) (wk : Int → Int) (nE : Int) (tk : Int → Int) (ld : Int → Int) (rule : Int) (now : Int) (st : Int) (asl : Int) (idn : Int) (idl : Int → Int) (sp : Int) (pe : Int) (tin : Int → Int) (slp : Int) (late : Int) (srv : Int) (hv : Int → Int) (av : Int) (bd : Int) (sh : Int) (mL : Int → Int) (mB : Int → Int) (thr : Int) (x1 : Int) (hx1 : zR x1) (hnC : 1 ≤ nC ∧ nC ≤ 8) (hpar : ∀ c : Int, 1 ≤ c → c < nC → 0 ≤ par c ∧ par c < c) (huse : rgZ use 8 9) (hmrun : tfZ mrun) (hde : rgZ dee 8 3) (hvo : rgZ vo 6 3) (hpw : rgZ pw 4 1000) (hco : rgZ co 4 10000) (hla : rgZ la 4 100) (hrl : 0 ≤ rule ∧ rule ≤ 2) (hhv : rgZ hv 24 1000) (htk : ∃ K : Int, K ≤ 190000 ∧ tiB K st asl now nT due lat wk nE tk ld sp pe tin slp late srv av bd sh idl idn) : zMi l yX8_play wsX8_play rmX8_play (dC, dI) (zT cI cJ cZ) (wM cI cJ cZ q pw co la vo nC par div dee use mrun nT due lat wk nE tk ld rule now st asl idn idl sp pe tin slp late srv hv av bd sh mL mB thr) [.ref (q 0), .int (iI x1)] (fun (r9 : Int) (u9 : Int × Int × Int × Int × Int × Int × (Int → Int) × (Int → Int) × (Int → Int) × Int × (Int → Int) × (Int → Int) × Int × Int × (Int → Int) × Int × Int × Int × Int × Int × Int × (Int → Int) × Int × (Int → Int)) => r9 = (u9.1) ∧ (tfZ (u9.2.2.2.2.2.2.2.2.2.2.2.2.2.2.2.2.2.2.2.2.2.2.2) ∧ (((1 ≤ x1 ∧ x1 ≤ 200) ∧ (u9.2.1) = 0 ∧ (u9.1) = (u9.2.2.2.2.1) ∧ ((u9.2.2.1), (u9.2.2.2.1), (u9.2.2.2.2.1), (u9.2.2.2.2.2.1), (u9.2.2.2.2.2.2.1), (u9.2.2.2.2.2.2.2.1), (u9.2.2.2.2.2.2.2.2.1), (u9.2.2.2.2.2.2.2.2.2.1), (u9.2.2.2.2.2.2.2.2.2.2.1), (u9.2.2.2.2.2.2.2.2.2.2.2.1), (u9.2.2.2.2.2.2.2.2.2.2.2.2.1), (u9.2.2.2.2.2.2.2.2.2.2.2.2.2.1), (u9.2.2.2.2.2.2.2.2.2.2.2.2.2.2.1), (u9.2.2.2.2.2.2.2.2.2.2.2.2.2.2.2.1), (u9.2.2.2.2.2.2.2.2.2.2.2.2.2.2.2.2.1), (u9.2.2.2.2.2.2.2.2.2.2.2.2.2.2.2.2.2.1), (u9.2.2.2.2.2.2.2.2.2.2.2.2.2.2.2.2.2.2.1), (u9.2.2.2.2.2.2.2.2.2.2.2.2.2.2.2.2.2.2.2.1), (u9.2.2.2.2.2.2.2.2.2.2.2.2.2.2.2.2.2.2.2.2.1), (u9.2.2.2.2.2.2.2.2.2.2.2.2.2.2.2.2.2.2.2.2.2.1), (u9.2.2.2.2.2.2.2.2.2.2.2.2.2.2.2.2.2.2.2.2.2.2.1)) = itT pw co la hv rule (dzM vo par dee use nC) x1.toNat (st, asl, now, nT, due, lat, wk, nE, tk, ld, sp, pe, tin, slp, late, srv, av, bd, sh, idl, idn)) ∨ (¬ (1 ≤ x1 ∧ x1 ≤ 200) ∧ (u9.2.1) = 1 ∧ ((u9.2.2.1), (u9.2.2.2.1), (u9.2.2.2.2.1), (u9.2.2.2.2.2.1), (u9.2.2.2.2.2.2.1), (u9.2.2.2.2.2.2.2.1), (u9.2.2.2.2.2.2.2.2.1), (u9.2.2.2.2.2.2.2.2.2.1), (u9.2.2.2.2.2.2.2.2.2.2.1), (u9.2.2.2.2.2.2.2.2.2.2.2.1), (u9.2.2.2.2.2.2.2.2.2.2.2.2.1), (u9.2.2.2.2.2.2.2.2.2.2.2.2.2.1), (u9.2.2.2.2.2.2.2.2.2.2.2.2.2.2.1), (u9.2.2.2.2.2.2.2.2.2.2.2.2.2.2.2.1), (u9.2.2.2.2.2.2.2.2.2.2.2.2.2.2.2.2.1), (u9.2.2.2.2.2.2.2.2.2.2.2.2.2.2.2.2.2.1), (u9.2.2.2.2.2.2.2.2.2.2.2.2.2.2.2.2.2.2.1), (u9.2.2.2.2.2.2.2.2.2.2.2.2.2.2.2.2.2.2.2.1), (u9.2.2.2.2.2.2.2.2.2.2.2.2.2.2.2.2.2.2.2.2.1), (u9.2.2.2.2.2.2.2.2.2.2.2.2.2.2.2.2.2.2.2.2.2.1), (u9.2.2.2.2.2.2.2.2.2.2.2.2.2.2.2.2.2.2.2.2.2.2.1)) = (st, asl, now, nT, due, lat, wk, nE, tk, ld, sp, pe, tin, slp, late, srv, av, bd, sh, idl, idn))))) (fun u9 : Int × Int × Int × Int × Int × Int × (Int → Int) × (Int → Int) × (Int → Int) × Int × (Int → Int) × (Int → Int) × Int × Int × (Int → Int) × Int × Int × Int × Int × Int × Int × (Int → Int) × Int × (Int → Int) => wM cI cJ cZ q pw co la vo nC par div dee use (u9.2.2.2.2.2.2.2.2.2.2.2.2.2.2.2.2.2.2.2.2.2.2.2) (u9.2.2.2.2.2.1) (u9.2.2.2.2.2.2.1) (u9.2.2.2.2.2.2.2.1) (u9.2.2.2.2.2.2.2.2.1) (u9.2.2.2.2.2.2.2.2.2.1) (u9.2.2.2.2.2.2.2.2.2.2.1) (u9.2.2.2.2.2.2.2.2.2.2.2.1) rule (u9.2.2.2.2.1) (u9.2.2.1) (u9.2.2.2.1) (u9.2.2.2.2.2.2.2.2.2.2.2.2.2.2.2.2.2.2.2.2.2.2.1) (u9.2.2.2.2.2.2.2.2.2.2.2.2.2.2.2.2.2.2.2.2.2.1) (u9.2.2.2.2.2.2.2.2.2.2.2.2.1) (u9.2.2.2.2.2.2.2.2.2.2.2.2.2.1) (u9.2.2.2.2.2.2.2.2.2.2.2.2.2.2.1) (u9.2.2.2.2.2.2.2.2.2.2.2.2.2.2.2.1) (u9.2.2.2.2.2.2.2.2.2.2.2.2.2.2.2.2.1) (u9.2.2.2.2.2.2.2.2.2.2.2.2.2.2.2.2.2.1) hv (u9.2.2.2.2.2.2.2.2.2.2.2.2.2.2.2.2.2.2.1) (u9.2.2.2.2.2.2.2.2.2.2.2.2.2.2.2.2.2.2.2.1) (u9.2.2.2.2.2.2.2.2.2.2.2.2.2.2.2.2.2.2.2.2.1) mL mB (u9.2.1)) 0 0 := by
  refine zent_i (cc := cX8_play) (maxL := 3) (ret := (some .int)) (by decide +kernel) rfl (Nat.le_of_ble_eq_true rfl) ?_
  intro p e s m below meth c A ls hE hP hK hA hD hS hl
  obtain ⟨hx, hb, hr, hml, hown, hts, hlocks, hmn⟩ := hE
  have hinX8 : ∀ w ∈ u_ws RX8 TX8 36, w ∈ wsX8_play := by decide +kernel
  have hl : lv_has ls 3 [(0, .ref (q 0)), (1, .int (iI x1))] := hl
  refine z_gen (fun Q hQ => ?_)
  obtain ⟨K9, hK9, hti⟩ := htk
  have hdz := dzM_r (par := par) (use := use) hvo hde hnC
  refine lv_aload_n hx hb dX8_play_0 rfl (lv_at hl 0 rfl) ?_
  refine lv_iload_n hx hb dX8_play_1 rfl (lv_at hl 1 rfl) ?_
  refine lv_iconst (v := iI 1) hx hb dX8_play_2 rfl ?_
  refine lv_sipush (v := iI 200) hx hb dX8_play_3 (by decide) ?_
  refine zc_pi (va_runS (As := [.int (iI x1), .int (iI 1), .int (iI 200)]) (rest := [.ref (q 0)]) ⟨hx, hb, hml, hown, hts⟩ (kX8_in l dC dI cI cJ cZ x1 1 200 (by first | assumption | omega | exact b2i_01 _) (by first | assumption | omega | exact b2i_01 _) (by first | assumption | omega | exact b2i_01 _)) (va_cwS 3 hts gX8_play_X8_in rfl rfl rfl (by decide +kernel) ⟨Nat.le_of_ble_eq_true rfl, Nat.le_of_ble_eq_true rfl⟩) (zqS hK hP [] rfl) rfl rfl hl.1 rfl (lv_room (Nat.le_of_ble_eq_true rfl)) dX8_play_6 ⟨Nat.le_of_ble_eq_true rfl, Nat.le_of_ble_eq_true rfl⟩) ?_
  refine zc_i (va_runV (As := [.int (iI (b2i (1 ≤ x1 ∧ x1 ≤ 200)))]) (rest := []) ⟨hx, hb, hml, hown, hts⟩ (kX8_asks l dC dI cI cJ cZ q pw co la vo nC par div dee use mrun nT due lat wk nE tk ld rule now st asl idn idl sp pe tin slp late srv hv av bd sh mL mB thr (b2i (1 ≤ x1 ∧ x1 ≤ 200)) (by first | assumption | omega | exact b2i_01 _) s.heap.size) (cwV 1 hts gX8_play_X8_asks rfl rfl rfl (by decide +kernel) ⟨Nat.le_of_ble_eq_true rfl, Nat.le_of_ble_eq_true rfl⟩) (zpV hK hP hD [0, 1, 2, 3, 4, 5, 6, 7, 8, 9, 10, 11, 12, 13, 14, 15, 16, 17, 18, 19] rfl rfl 0 rfl rfl) rfl rfl hl.1 rfl (lv_room (Nat.le_of_ble_eq_true rfl)) dX8_play_9 ⟨Nat.le_of_ble_eq_true rfl, Nat.le_of_ble_eq_true rfl⟩) hP hD hS hA [0, 1, 2, 3, 4, 5, 6, 7, 8, 9, 10, 11, 12, 13, 14, 15, 16, 17, 18, 19] [] rfl rfl rfl (by decide) (fun v_3 u_2 H locs r_1 hP hD hS => ?_)
  refine ze_i r_1 ?_
  have hP : va_P (dC, dI) vwCl (wM cI cJ cZ q pw co la vo nC par div dee use mrun nT due lat wk nE tk ld rule now st asl idn idl sp pe tin slp late srv hv av bd sh mL mB (1 - (b2i (1 ≤ x1 ∧ x1 ≤ 200)))) H := hP
  have hD : va_D A (wM cI cJ cZ q pw co la vo nC par div dee use mrun nT due lat wk nE tk ld rule now st asl idn idl sp pe tin slp late srv hv av bd sh mL mB (1 - (b2i (1 ≤ x1 ∧ x1 ≤ 200)))) := hD
  refine zb_fne (tgt := 17) hx hb dX8_play_12 (by decide) (fun c_4 => ?_) (fun c_4 => ?_)
  · skip
    refine lv_iconst (v := iI 0) hx hb dX8_play_17 rfl ?_
    refine lv_istore_n (lv' := [(2, .int (iI 0)), (0, .ref (q 0)), (1, .int (iI x1))]) hx hb dX8_play_18 rfl hl (by decide) rfl (fun ls hl => ?_)
    have L19 : ∀ (fuel : Nat) (k : Int) (st3 : Int) (asl3 : Int) (now3 : Int) (nT3 : Int) (due3 : Int → Int) (lat3 : Int → Int) (wk3 : Int → Int) (nE3 : Int) (tk3 : Int → Int) (ld3 : Int → Int) (sp3 : Int) (pe3 : Int) (tin3 : Int → Int) (slp3 : Int) (late3 : Int) (srv3 : Int) (av3 : Int) (bd3 : Int) (sh3 : Int) (idl3 : Int → Int) (idn3 : Int) (mrun3 : Int → Int), (0 ≤ k ∧ k ≤ x1) → ((st3, asl3, now3, nT3, due3, lat3, wk3, nE3, tk3, ld3, sp3, pe3, tin3, slp3, late3, srv3, av3, bd3, sh3, idl3, idn3) = itT pw co la hv rule (dzM vo par dee use nC) k.toNat (st, asl, now, nT, due, lat, wk, nE, tk, ld, sp, pe, tin, slp, late, srv, av, bd, sh, idl, idn)) → (tiB (K9 + k) st3 asl3 now3 nT3 due3 lat3 wk3 nE3 tk3 ld3 sp3 pe3 tin3 slp3 late3 srv3 av3 bd3 sh3 idl3 idn3) → (tfZ mrun3) → ((x1 - k).toNat) < fuel → ∀ (H : Heap) (locs : List Loc), va_P (dC, dI) vwCl (wM cI cJ cZ q pw co la vo nC par div dee use mrun3 nT3 due3 lat3 wk3 nE3 tk3 ld3 rule now3 st3 asl3 idn3 idl3 sp3 pe3 tin3 slp3 late3 srv3 hv av3 bd3 sh3 mL mB (1 - (b2i (1 ≤ x1 ∧ x1 ≤ 200)))) H → va_D A (wM cI cJ cZ q pw co la vo nC par div dee use mrun3 nT3 due3 lat3 wk3 nE3 tk3 ld3 rule now3 st3 asl3 idn3 idl3 sp3 pe3 tin3 slp3 late3 srv3 hv av3 bd3 sh3 mL mB (1 - (b2i (1 ≤ x1 ∧ x1 ≤ 200)))) → va_S A s.heap H locs → ∀ ls : Array Slot, lv_has ls 3 [(2, .int (iI k)), (0, .ref (q 0)), (1, .int (iI x1))] → W p l e rmX8_play s m ([.ref (q 0), .int (iI x1)] : List Value).toArray below meth c H locs 0 0 Q (F0 m 19 ls []) := by
      intro fuel
      induction fuel with
      | zero =>
        intro k st3 asl3 now3 nT3 due3 lat3 wk3 nE3 tk3 ld3 sp3 pe3 tin3 slp3 late3 srv3 av3 bd3 sh3 idl3 idn3 mrun3 hk ht3 hti3 hrun3 hmeas H locs hP hD hS ls hl
        exact absurd hmeas (by omega)
      | succ fuel ih =>
        intro k st3 asl3 now3 nT3 due3 lat3 wk3 nE3 tk3 ld3 sp3 pe3 tin3 slp3 late3 srv3 av3 bd3 sh3 idl3 idn3 mrun3 hk ht3 hti3 hrun3 hmeas H locs hP hD hS ls hl
        obtain ⟨i1, i2, i3, i4, i5, i6, i7, i8, i9, i10, i11, i12, i13, i14, i15, i16, i17⟩ := id hti3
        refine lv_iload_n hx hb dX8_play_19 rfl (lv_at hl 0 rfl) ?_
        refine lv_iload_n hx hb dX8_play_20 rfl (lv_at hl 2 rfl) ?_
        refine zi_cge (tgt := 34) hx hb (by omega) (by omega) dX8_play_21 (by decide) (fun c_5 => ?_) (fun c_5 => ?_)
        · skip
          refine lv_aload_n hx hb dX8_play_34 rfl (lv_at hl 1 rfl) ?_
          refine va_get (D := (dC, dI)) (ci := 8) (v := .int (iI now3)) (C := RX8) (T := TX8) (N := 36) hx hb hts hinX8 hown hK.1 hP 0 rfl rfl 18 (by decide) (hts _ (List.mem_of_getElem? (i := 1) rfl)) (fun _ h9 => h9) rfl dX8_play_35 ?_
          subst hQ
          exact zret_i (W1 := fun u9 : Int × Int × Int × Int × Int × Int × (Int → Int) × (Int → Int) × (Int → Int) × Int × (Int → Int) × (Int → Int) × Int × Int × (Int → Int) × Int × Int × Int × Int × Int × Int × (Int → Int) × Int × (Int → Int) => wM cI cJ cZ q pw co la vo nC par div dee use (u9.2.2.2.2.2.2.2.2.2.2.2.2.2.2.2.2.2.2.2.2.2.2.2) (u9.2.2.2.2.2.1) (u9.2.2.2.2.2.2.1) (u9.2.2.2.2.2.2.2.1) (u9.2.2.2.2.2.2.2.2.1) (u9.2.2.2.2.2.2.2.2.2.1) (u9.2.2.2.2.2.2.2.2.2.2.1) (u9.2.2.2.2.2.2.2.2.2.2.2.1) rule (u9.2.2.2.2.1) (u9.2.2.1) (u9.2.2.2.1) (u9.2.2.2.2.2.2.2.2.2.2.2.2.2.2.2.2.2.2.2.2.2.2.1) (u9.2.2.2.2.2.2.2.2.2.2.2.2.2.2.2.2.2.2.2.2.2.1) (u9.2.2.2.2.2.2.2.2.2.2.2.2.1) (u9.2.2.2.2.2.2.2.2.2.2.2.2.2.1) (u9.2.2.2.2.2.2.2.2.2.2.2.2.2.2.1) (u9.2.2.2.2.2.2.2.2.2.2.2.2.2.2.2.1) (u9.2.2.2.2.2.2.2.2.2.2.2.2.2.2.2.2.1) (u9.2.2.2.2.2.2.2.2.2.2.2.2.2.2.2.2.2.1) hv (u9.2.2.2.2.2.2.2.2.2.2.2.2.2.2.2.2.2.2.1) (u9.2.2.2.2.2.2.2.2.2.2.2.2.2.2.2.2.2.2.2.1) (u9.2.2.2.2.2.2.2.2.2.2.2.2.2.2.2.2.2.2.2.2.1) mL mB (u9.2.1)) (now3, 1 - (b2i (1 ≤ x1 ∧ x1 ≤ 200)), st3, asl3, now3, nT3, due3, lat3, wk3, nE3, tk3, ld3, sp3, pe3, tin3, slp3, late3, srv3, av3, bd3, sh3, idl3, idn3, mrun3) hx hb hr hP hD hS hlocks dX8_play_38 (by first | exact ⟨rfl, hrun3, Or.inl ⟨by omega, by (first | rfl | (rw [b2i_t (by omega)]; done) | (rw [b2i_f (by omega)]; done) | (rw [b2i_t (by omega)]; rfl) | (rw [b2i_f (by omega)]; rfl)), rfl, by (obtain rfl : k = x1 := by omega); exact ht3⟩⟩ | exact ⟨rfl, hmrun, Or.inr ⟨by omega, by (first | rfl | (rw [b2i_t (by omega)]; done) | (rw [b2i_f (by omega)]; done) | (rw [b2i_t (by omega)]; rfl) | (rw [b2i_f (by omega)]; rfl)), rfl⟩⟩)
        · skip
          refine lv_aload_n hx hb dX8_play_24 rfl (lv_at hl 1 rfl) ?_
          refine zc_v (va_runV (As := []) (rest := []) ⟨hx, hb, hml, hown, hts⟩ (kX8_playsOne l dC dI cI cJ cZ q pw co la vo nC par div dee use mrun3 nT3 due3 lat3 wk3 nE3 tk3 ld3 rule now3 st3 asl3 idn3 idl3 sp3 pe3 tin3 slp3 late3 srv3 hv av3 bd3 sh3 mL mB (1 - (b2i (1 ≤ x1 ∧ x1 ≤ 200))) (by first | assumption | omega | exact b2i_01 _) (by first | assumption | omega | exact b2i_01 _) (by first | assumption | omega | exact b2i_01 _) (by first | assumption | omega | exact b2i_01 _) (by first | assumption | omega | exact b2i_01 _) (by first | assumption | omega | exact b2i_01 _) (by first | assumption | omega | exact b2i_01 _) (by first | assumption | omega | exact b2i_01 _) (by first | assumption | omega | exact b2i_01 _) (by first | assumption | omega | exact b2i_01 _) (by first | assumption | omega | exact b2i_01 _) (by first | assumption | omega | exact b2i_01 _) (by first | assumption | omega | exact b2i_01 _) (by first | assumption | omega | exact b2i_01 _) (by first | assumption | omega | exact b2i_01 _) (by first | assumption | omega | exact b2i_01 _) (by first | assumption | omega | exact b2i_01 _) (by first | assumption | omega | exact b2i_01 _) (by first | assumption | omega | exact b2i_01 _) (by first | assumption | omega | exact b2i_01 _) (by first | assumption | omega | exact b2i_01 _) (by first | assumption | omega | exact b2i_01 _) (by first | assumption | omega | exact b2i_01 _) (by first | assumption | omega | exact b2i_01 _) (by first | assumption | omega | exact b2i_01 _) (by first | assumption | omega | exact b2i_01 _) (by first | assumption | omega | exact b2i_01 _) H.size) (cwV 0 hts gX8_play_X8_playsOne rfl rfl rfl (by decide +kernel) ⟨Nat.le_of_ble_eq_true rfl, Nat.le_of_ble_eq_true rfl⟩) (zpV hK hP hD [0, 1, 2, 3, 4, 5, 6, 7, 8, 9, 10, 11, 12, 13, 14, 15, 16, 17, 18, 19] rfl rfl 0 rfl rfl) rfl rfl hl.1 rfl (lv_room (Nat.le_of_ble_eq_true rfl)) dX8_play_25 ⟨Nat.le_of_ble_eq_true rfl, Nat.le_of_ble_eq_true rfl⟩) hP hD hS hA [0, 1, 2, 3, 4, 5, 6, 7, 8, 9, 10, 11, 12, 13, 14, 15, 16, 17, 18, 19] [] rfl rfl rfl (by decide) (fun u_7 H locs r_6 hP hD hS => ?_)
          obtain ⟨stx_9, aslx_10, nowx_11, nTx_12, duex_13, latx_14, wkx_15, nEx_16, tkx_17, ldx_18, spx_19, pex_20, tinx_21, slpx_22, latex_23, srvx_24, avx_25, bdx_26, shx_27, idlx_28, idnx_29, mrunx_30⟩ := u_7
          have r_6 : (stx_9, aslx_10, nowx_11, nTx_12, duex_13, latx_14, wkx_15, nEx_16, tkx_17, ldx_18, spx_19, pex_20, tinx_21, slpx_22, latex_23, srvx_24, avx_25, bdx_26, shx_27, idlx_28, idnx_29) = tkB pw co la hv rule (dzM vo par dee use nC) st3 asl3 now3 nT3 due3 lat3 wk3 nE3 tk3 ld3 sp3 pe3 tin3 slp3 late3 srv3 av3 bd3 sh3 idl3 idn3 ∧ tfZ mrunx_30 := r_6
          have hP : va_P (dC, dI) vwCl (wM cI cJ cZ q pw co la vo nC par div dee use mrunx_30 nTx_12 duex_13 latx_14 wkx_15 nEx_16 tkx_17 ldx_18 rule nowx_11 stx_9 aslx_10 idnx_29 idlx_28 spx_19 pex_20 tinx_21 slpx_22 latex_23 srvx_24 hv avx_25 bdx_26 shx_27 mL mB (1 - (b2i (1 ≤ x1 ∧ x1 ≤ 200)))) H := hP
          have hD : va_D A (wM cI cJ cZ q pw co la vo nC par div dee use mrunx_30 nTx_12 duex_13 latx_14 wkx_15 nEx_16 tkx_17 ldx_18 rule nowx_11 stx_9 aslx_10 idnx_29 idlx_28 spx_19 pex_20 tinx_21 slpx_22 latex_23 srvx_24 hv avx_25 bdx_26 shx_27 mL mB (1 - (b2i (1 ≤ x1 ∧ x1 ≤ 200)))) := hD
          obtain ⟨hw9, hrun9⟩ := r_6
          have hti9 := tk_i (hv := hv) (rule := rule) (K := K9 + k) hpw hco hla hdz (by omega) hti3
          rw [← hw9] at hti9
          refine lv_iinc (v := iI (k + 1)) (lv' := [(2, .int (iI (k + 1))), (0, .ref (q 0)), (1, .int (iI x1))]) hx hb dX8_play_28 hl (k := 0) rfl (iI_add _ _) (by decide) rfl (fun ls hl => ?_)
          refine lv_goto (tgt := 19) hx hb dX8_play_31 (by decide) ?_
          exact ih (k + 1) stx_9 aslx_10 nowx_11 nTx_12 duex_13 latx_14 wkx_15 nEx_16 tkx_17 ldx_18 spx_19 pex_20 tinx_21 slpx_22 latex_23 srvx_24 avx_25 bdx_26 shx_27 idlx_28 idnx_29 mrunx_30 (by omega) (by rw [show (k + 1).toNat = k.toNat + 1 by omega, itT_s, ← ht3]; exact hw9) (by rw [show K9 + (k + 1) = K9 + k + 1 by omega]; exact hti9) (hrun9) (by omega) H locs hP hD hS ls (lv_sub hl [0, 1, 2] rfl)
    exact L19 (_ + 1) 0 st asl now nT due lat wk nE tk ld sp pe tin slp late srv av bd sh idl idn mrun (by omega) (rfl) (by rw [Int.add_zero]; exact hti) (hmrun) (Nat.lt_succ_self _) H locs hP hD hS ls (lv_sub hl [0, 1, 2] rfl)
  · skip
    refine lv_iconst (v := iI 0) hx hb dX8_play_15 rfl ?_
    subst hQ
    exact zret_i (W1 := fun u9 : Int × Int × Int × Int × Int × Int × (Int → Int) × (Int → Int) × (Int → Int) × Int × (Int → Int) × (Int → Int) × Int × Int × (Int → Int) × Int × Int × Int × Int × Int × Int × (Int → Int) × Int × (Int → Int) => wM cI cJ cZ q pw co la vo nC par div dee use (u9.2.2.2.2.2.2.2.2.2.2.2.2.2.2.2.2.2.2.2.2.2.2.2) (u9.2.2.2.2.2.1) (u9.2.2.2.2.2.2.1) (u9.2.2.2.2.2.2.2.1) (u9.2.2.2.2.2.2.2.2.1) (u9.2.2.2.2.2.2.2.2.2.1) (u9.2.2.2.2.2.2.2.2.2.2.1) (u9.2.2.2.2.2.2.2.2.2.2.2.1) rule (u9.2.2.2.2.1) (u9.2.2.1) (u9.2.2.2.1) (u9.2.2.2.2.2.2.2.2.2.2.2.2.2.2.2.2.2.2.2.2.2.2.1) (u9.2.2.2.2.2.2.2.2.2.2.2.2.2.2.2.2.2.2.2.2.2.1) (u9.2.2.2.2.2.2.2.2.2.2.2.2.1) (u9.2.2.2.2.2.2.2.2.2.2.2.2.2.1) (u9.2.2.2.2.2.2.2.2.2.2.2.2.2.2.1) (u9.2.2.2.2.2.2.2.2.2.2.2.2.2.2.2.1) (u9.2.2.2.2.2.2.2.2.2.2.2.2.2.2.2.2.1) (u9.2.2.2.2.2.2.2.2.2.2.2.2.2.2.2.2.2.1) hv (u9.2.2.2.2.2.2.2.2.2.2.2.2.2.2.2.2.2.2.1) (u9.2.2.2.2.2.2.2.2.2.2.2.2.2.2.2.2.2.2.2.1) (u9.2.2.2.2.2.2.2.2.2.2.2.2.2.2.2.2.2.2.2.2.1) mL mB (u9.2.1)) (0, 1 - (b2i (1 ≤ x1 ∧ x1 ≤ 200)), st, asl, now, nT, due, lat, wk, nE, tk, ld, sp, pe, tin, slp, late, srv, av, bd, sh, idl, idn, mrun) hx hb hr hP hD hS hlocks dX8_play_16 (by first | exact ⟨rfl, hrun3, Or.inl ⟨by omega, by (first | rfl | (rw [b2i_t (by omega)]; done) | (rw [b2i_f (by omega)]; done) | (rw [b2i_t (by omega)]; rfl) | (rw [b2i_f (by omega)]; rfl)), rfl, by (obtain rfl : k = x1 := by omega); exact ht3⟩⟩ | exact ⟨rfl, hmrun, Or.inr ⟨by omega, by (first | rfl | (rw [b2i_t (by omega)]; done) | (rw [b2i_f (by omega)]; done) | (rw [b2i_t (by omega)]; rfl) | (rw [b2i_f (by omega)]; rfl)), rfl⟩⟩)
