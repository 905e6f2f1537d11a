def rmX5_countPlanned : Room := { frames := 1, cells := 0, slots := 0, locals := 25 }
set_option maxRecDepth 100000 in
set_option maxHeartbeats 4000000 in
theorem kX5_countPlanned (l : Launch) (dC : Nat → ClassId) (dI : Nat → Nat → Nat) (cI cJ cZ : ClassId) (h0 h1 h2 g0 g1 g2 g3 : Nat)  (sc : Int → Int) (lt : Int → Int) (due : Int → Int) (lat : Int → Int) (wk : Int → Int) (nJ : Int) (un : Int) (hnJ : 0 ≤ nJ ∧ nJ ≤ 12) (hdue : rgZ due 12 1000000) (hlat : rgZ lat 12 1000000) (hwk : rgZ wk 12 50) (hdl : ∀ k : Int, 0 ≤ k → k < nJ → due k ≤ lat k) (hun : 0 ≤ un ∧ un ≤ 1000000) : zPi l yX5_countPlanned wsX5_countPlanned rmX5_countPlanned (dC, dI) (zT cI cJ cZ) (wPlJ cI cJ cZ h0 h1 h2 g0 g1 g2 g3 sc lt due lat wk nJ) [.ref h0, .ref g0, .int (iI un)] (swN due lat un nJ (un + 1).toNat (-1)) := by
  refine zent_pi (cc := cX5_countPlanned) (maxL := 5) (ret := (some .int)) (by decide +kernel) rfl (Nat.le_of_ble_eq_true rfl) ?_
  intro p e s m below meth c ls hE hP hK hl
  obtain ⟨hx, hb, hr, hml, hown, hts, hlocks, hmn⟩ := hE
  have hinX3 : ∀ w ∈ u_ws RX3 TX3 4, w ∈ wsX5_countPlanned := by decide +kernel
  have hl : lv_has ls 5 [(0, .ref h0), (1, .ref g0), (2, .int (iI un))] := hl
  refine z_gen (fun Q hQ => ?_)
  have hl8 : ∀ k : Int, 0 ≤ k → k < nJ → 0 ≤ lat k := fun k h1 h2 => (hlat k h1 (by omega)).1
  refine lv_iconst (v := iI 0) hx hb dX5_countPlanned_0 rfl ?_
  refine lv_istore_n (lv' := [(3, .int (iI 0)), (0, .ref h0), (1, .ref g0), (2, .int (iI un))]) hx hb dX5_countPlanned_1 rfl hl (by decide) rfl (fun ls hl => ?_)
  refine lv_aload_n hx hb dX5_countPlanned_2 rfl (lv_at hl 2 rfl) ?_
  refine lv_iconst (v := iI (-1)) hx hb dX5_countPlanned_3 rfl ?_
  refine lv_iload_n hx hb dX5_countPlanned_4 rfl (lv_at hl 3 rfl) ?_
  refine zc_pi (va_runV (As := [.int (iI (-1)), .int (iI un)]) (rest := []) ⟨hx, hb, hml, hown, hts⟩ (kX3_leastLatest l dC dI cI cJ cZ g0 g1 g2 g3 due lat wk nJ (-1) un (by first | assumption | omega | exact b2i_01 _) (by first | assumption | omega | exact b2i_01 _) (by first | assumption | omega | exact b2i_01 _) (by first | assumption | omega | exact b2i_01 _) (by first | assumption | omega | exact b2i_01 _) (by first | assumption | omega | exact b2i_01 _)) (cwV 2 hts gX5_countPlanned_X3_leastLatest rfl rfl rfl (by decide +kernel) ⟨Nat.le_of_ble_eq_true rfl, Nat.le_of_ble_eq_true rfl⟩) (zqV hK hP [3, 4, 5, 6] rfl 3 rfl rfl) rfl rfl hl.1 rfl (lv_room (Nat.le_of_ble_eq_true rfl)) dX5_countPlanned_5 ⟨Nat.le_of_ble_eq_true rfl, Nat.le_of_ble_eq_true rfl⟩) ?_
  have e_1 := @ll_r due lat (-1) un nJ _ hlat (by omega) hnJ
  refine lv_istore (lv' := [(4, .int (iI (llZ due lat (-1) un nJ))), (3, .int (iI 0)), (0, .ref h0), (1, .ref g0), (2, .int (iI un))]) hx hb dX5_countPlanned_8 hl (by decide) rfl (fun ls hl => ?_)
  have L10 : ∀ (fuel : Nat) (w9 : Int) (x9 : Int) (l9 : Int) (f9 : Nat), (x9 = llZ due lat l9 un nJ) → (0 ≤ w9 ∧ w9 + cnZ (fun k => due k > l9) nJ ≤ nJ) → (-1 ≤ l9 ∧ l9 ≤ un ∧ un - l9 ≤ f9 ∧ (l9 < un → 0 < f9)) → (swN due lat un nJ (un + 1).toNat (-1) = w9 + swN due lat un nJ f9 l9) → ((nJ - w9).toNat) < fuel → ∀ ls : Array Slot, lv_has ls 5 [(4, .int (iI x9)), (3, .int (iI w9)), (0, .ref h0), (1, .ref g0), (2, .int (iI un))] → W p l e rmX5_countPlanned s m ([.ref h0, .ref g0, .int (iI un)] : List Value).toArray below meth c s.heap [] 0 0 Q (F0 m 10 ls []) := by
    intro fuel
    induction fuel with
    | zero =>
      intro w9 x9 l9 f9 hx9 hw9 hl9 hI hmeas ls hl
      exact absurd hmeas (by omega)
    | succ fuel ih =>
      intro w9 x9 l9 f9 hx9 hw9 hl9 hI hmeas ls hl
      have hq9 := ll_np (due := due) (w := l9) (un := un) hnJ.1 hl8
      have hx8 : -1 ≤ x9 ∧ x9 ≤ 1000000 := by rw [hx9]; exact ll_r hlat (by omega) hnJ
      have hc9 := cn_r (fun k => due k > l9) hnJ.1
      have hs9 := sw_cn (due := due) (lat := lat) (un := un) hnJ.1 hdl f9 l9
      have hs8 := sw_r (due := due) (lat := lat) (un := un) (n := nJ) f9 l9
      refine lv_iload hx hb dX5_countPlanned_10 (lv_at hl 0 rfl) ?_
      refine lv_iconst (v := iI (-1)) hx hb dX5_countPlanned_12 rfl ?_
      refine zi_ceq (tgt := 39) hx hb (by omega) (by decide) dX5_countPlanned_13 (by decide) (fun c_2 => ?_) (fun c_2 => ?_)
      · skip
        refine lv_iload_n hx hb dX5_countPlanned_39 rfl (lv_at hl 1 rfl) ?_
        subst hQ
        exact zret_pi hx hb hr hlocks dX5_countPlanned_40 (by first | (rw [hI]; omega) | (rw [hI, sw_n (by omega)]; omega))
      · skip
        refine lv_iload_n hx hb dX5_countPlanned_16 rfl (lv_at hl 1 rfl) ?_
        refine lv_aload_n hx hb dX5_countPlanned_17 rfl (lv_at hl 3 rfl) ?_
        refine va_getN (D := (dC, dI)) (ci := 3) (v := .int (iI nJ)) (C := RX3) (T := TX3) (N := 4) (host := "SleepPlanner") hx hb hts hinX3 hown hK.1 hP 3 rfl rfl 3 (by decide) (va_Nw.use rfl (hK.2.1 _ (List.mem_of_getElem? (i := 11) rfl))) (fun _ h9 => h9) rfl dX5_countPlanned_18 ?_
        refine zi_cge (tgt := 39) hx hb (by omega) (by omega) dX5_countPlanned_21 (by decide) (fun c_3 => ?_) (fun c_3 => ?_)
        · skip
          refine lv_iload_n hx hb dX5_countPlanned_39 rfl (lv_at hl 1 rfl) ?_
          subst hQ
          exact zret_pi hx hb hr hlocks dX5_countPlanned_40 (by first | (rw [hI]; omega) | (rw [hI, sw_n (by omega)]; omega))
        · skip
          refine lv_iinc (v := iI (w9 + 1)) (lv' := [(3, .int (iI (w9 + 1))), (4, .int (iI x9)), (0, .ref h0), (1, .ref g0), (2, .int (iI un))]) hx hb dX5_countPlanned_24 hl (k := 1) rfl (iI_add _ _) (by decide) rfl (fun ls hl => ?_)
          refine lv_aload_n hx hb dX5_countPlanned_27 rfl (lv_at hl 3 rfl) ?_
          refine lv_iload hx hb dX5_countPlanned_28 (lv_at hl 1 rfl) ?_
          refine lv_iload_n hx hb dX5_countPlanned_30 rfl (lv_at hl 4 rfl) ?_
          have hq7 : npZ due lat l9 un nJ < un := by omega
          have hq8 : npZ due lat l9 un nJ = x9 := by omega
          obtain ⟨k8, a1, a2, a3, a4⟩ := np_at hnJ.1 hq7
          have a5 := hdl k8 a1 a2
          refine zc_pi (va_runV (As := [.int (iI x9), .int (iI un)]) (rest := []) ⟨hx, hb, hml, hown, hts⟩ (kX3_leastLatest l dC dI cI cJ cZ g0 g1 g2 g3 due lat wk nJ x9 un (by first | assumption | omega | exact b2i_01 _) (by first | assumption | omega | exact b2i_01 _) (by first | assumption | omega | exact b2i_01 _) (by first | assumption | omega | exact b2i_01 _) (by first | assumption | omega | exact b2i_01 _) (by first | assumption | omega | exact b2i_01 _)) (cwV 2 hts gX5_countPlanned_X3_leastLatest rfl rfl rfl (by decide +kernel) ⟨Nat.le_of_ble_eq_true rfl, Nat.le_of_ble_eq_true rfl⟩) (zqV hK hP [3, 4, 5, 6] rfl 3 rfl rfl) rfl rfl hl.1 rfl (lv_room (Nat.le_of_ble_eq_true rfl)) dX5_countPlanned_31 ⟨Nat.le_of_ble_eq_true rfl, Nat.le_of_ble_eq_true rfl⟩) ?_
          have e_4 := @ll_r due lat x9 un nJ _ hlat (by omega) hnJ
          refine lv_istore (lv' := [(4, .int (iI (llZ due lat x9 un nJ))), (3, .int (iI (w9 + 1))), (0, .ref h0), (1, .ref g0), (2, .int (iI un))]) hx hb dX5_countPlanned_34 hl (by decide) rfl (fun ls hl => ?_)
          refine lv_goto (tgt := 10) hx hb dX5_countPlanned_36 (by decide) ?_
          exact ih (w9 + 1) (llZ due lat x9 un nJ) x9 (f9 - 1) (rfl) (by rw [← hq8]; have := cn_np hnJ.1 hdl hq7; omega) (by omega) (by rw [hI, sw_y hq7 (by omega), hq8]; omega) (by omega) ls (lv_sub hl [0, 1, 2, 3, 4] rfl)
  exact L10 (_ + 1) 0 (llZ due lat (-1) un nJ) (-1) ((un + 1).toNat) (rfl) (by have := cn_r (fun k => due k > -1) hnJ.1; omega) (by omega) (by rw [Int.zero_add]) (Nat.lt_succ_self _) ls (lv_sub hl [0, 1, 2, 3, 4] rfl)
def rmX5_sumPlanned : Room := { frames := 5, cells := 0, slots := 0, locals := 111 }
set_option maxRecDepth 100000 in
set_option maxHeartbeats 4000000 in
theorem kX5_sumPlanned (l : Launch) (dC : Nat → ClassId) (dI : Nat → Nat → Nat) (cI cJ cZ : ClassId) (h0 h1 h2 g0 g1 g2 g3 k0 k1 k2 k3 : Nat)  (sc : Int → Int) (lt : Int → Int) (due : Int → Int) (lat : Int → Int) (wk : Int → Int) (nJ : Int) (pw : Int → Int) (co : Int → Int) (la : Int → Int) (now un d : Int) (hnJ : 0 ≤ nJ ∧ nJ ≤ 12) (hdue : rgZ due 12 1000000) (hlat : rgZ lat 12 1000000) (hwk : rgZ wk 12 50) (hdl : ∀ k : Int, 0 ≤ k → k < nJ → due k ≤ lat k) (hun : 0 ≤ un ∧ un ≤ 1000000) (hpw : rgZ pw 4 1000) (hco : rgZ co 4 10000) (hla : rgZ la 4 100) (hl0 : la 0 = 0) (hd : 0 ≤ d ∧ d ≤ 3) (hnw : 0 ≤ now ∧ now ≤ un ∧ un ≤ now + 400) (hnl : ∀ k : Int, 0 ≤ k → k < nJ → now ≤ lat k) : zPl l yX5_sumPlanned wsX5_sumPlanned rmX5_sumPlanned (dC, dI) (zT cI cJ cZ) (wPlJS cI cJ cZ h0 h1 h2 g0 g1 g2 g3 k0 k1 k2 k3 sc lt due lat wk nJ pw co la) [.ref h0, .ref g0, .int (iI now), .int (iI un), .ref k0, .int (iI d)] (plN (pcZ pw co la d) due lat un nJ (un + 1).toNat now (-1)) := by
  refine zent_pl (cc := cX5_sumPlanned) (maxL := 12) (ret := (some .long)) (by decide +kernel) rfl (Nat.le_of_ble_eq_true rfl) ?_
  intro p e s m below meth c ls hE hP hK hl
  obtain ⟨hx, hb, hr, hml, hown, hts, hlocks, hmn⟩ := hE
  have hinX3 : ∀ w ∈ u_ws RX3 TX3 4, w ∈ wsX5_sumPlanned := by decide +kernel
  have hinX6 : ∀ w ∈ u_ws RX6 TX6 3, w ∈ wsX5_sumPlanned := by decide +kernel
  have hl : lv_has ls 12 [(0, .ref h0), (1, .ref g0), (2, .int (iI now)), (3, .int (iI un)), (4, .ref k0), (5, .int (iI d))] := hl
  refine z_gen (fun Q hQ => ?_)
  have hl8 : ∀ k : Int, 0 ≤ k → k < nJ → 0 ≤ lat k := fun k h1 h2 => (hlat k h1 (by omega)).1
  refine lv_lconst (v := lI 0) hx hb dX5_sumPlanned_0 rfl ?_
  refine lv_lstore (lv' := [(6, .long (lI 0)), (0, .ref h0), (1, .ref g0), (2, .int (iI now)), (3, .int (iI un)), (4, .ref k0), (5, .int (iI d))]) hx hb dX5_sumPlanned_1 hl (by decide) rfl (fun ls hl => ?_)
  refine lv_iload_n hx hb dX5_sumPlanned_3 rfl (lv_at hl 3 rfl) ?_
  refine lv_istore (lv' := [(8, .int (iI now)), (6, .long (lI 0)), (0, .ref h0), (1, .ref g0), (2, .int (iI now)), (3, .int (iI un)), (4, .ref k0), (5, .int (iI d))]) hx hb dX5_sumPlanned_4 hl (by decide) rfl (fun ls hl => ?_)
  refine lv_aload_n hx hb dX5_sumPlanned_6 rfl (lv_at hl 2 rfl) ?_
  refine lv_aload_n hx hb dX5_sumPlanned_7 rfl (lv_at hl 3 rfl) ?_
  refine lv_iload_n hx hb dX5_sumPlanned_8 rfl (lv_at hl 5 rfl) ?_
  refine zc_pi (va_runV (As := [.ref g0, .int (iI un)]) (rest := []) ⟨hx, hb, hml, hown, hts⟩ (kX5_countPlanned l dC dI cI cJ cZ h0 h1 h2 g0 g1 g2 g3 sc lt due lat wk nJ un (by first | assumption | omega | exact b2i_01 _) (by first | assumption | omega | exact b2i_01 _) (by first | assumption | omega | exact b2i_01 _) (by first | assumption | omega | exact b2i_01 _) (by first | assumption | omega | exact b2i_01 _) (by first | assumption | omega | exact b2i_01 _)) (cwV 2 hts gX5_sumPlanned_X5_countPlanned rfl rfl rfl (by decide +kernel) ⟨Nat.le_of_ble_eq_true rfl, Nat.le_of_ble_eq_true rfl⟩) (zqV hK hP [0, 1, 2, 3, 4, 5, 6] rfl 0 rfl rfl) rfl rfl hl.1 rfl (lv_room (Nat.le_of_ble_eq_true rfl)) dX5_sumPlanned_9 ⟨Nat.le_of_ble_eq_true rfl, Nat.le_of_ble_eq_true rfl⟩) ?_
  have e_1 := (⟨sw_r (due := due) (lat := lat) (un := un) (n := nJ) (un + 1).toNat (-1), Int.le_trans (sw_cn hnJ.1 hdl (un + 1).toNat (-1)) (cn_r (fun k => due k > -1) hnJ.1).2⟩ : 0 ≤ swN due lat un nJ (un + 1).toNat (-1) ∧ swN due lat un nJ (un + 1).toNat (-1) ≤ nJ)
  refine lv_istore (lv' := [(9, .int (iI (swN due lat un nJ (un + 1).toNat (-1)))), (8, .int (iI now)), (6, .long (lI 0)), (0, .ref h0), (1, .ref g0), (2, .int (iI now)), (3, .int (iI un)), (4, .ref k0), (5, .int (iI d))]) hx hb dX5_sumPlanned_12 hl (by decide) rfl (fun ls hl => ?_)
  refine lv_aload_n hx hb dX5_sumPlanned_14 rfl (lv_at hl 4 rfl) ?_
  refine lv_iconst (v := iI (-1)) hx hb dX5_sumPlanned_15 rfl ?_
  refine lv_iload_n hx hb dX5_sumPlanned_16 rfl (lv_at hl 6 rfl) ?_
  refine zc_pi (va_runV (As := [.int (iI (-1)), .int (iI un)]) (rest := []) ⟨hx, hb, hml, hown, hts⟩ (kX3_leastLatest l dC dI cI cJ cZ g0 g1 g2 g3 due lat wk nJ (-1) un (by first | assumption | omega | exact b2i_01 _) (by first | assumption | omega | exact b2i_01 _) (by first | assumption | omega | exact b2i_01 _) (by first | assumption | omega | exact b2i_01 _) (by first | assumption | omega | exact b2i_01 _) (by first | assumption | omega | exact b2i_01 _)) (cwV 2 hts gX5_sumPlanned_X3_leastLatest rfl rfl rfl (by decide +kernel) ⟨Nat.le_of_ble_eq_true rfl, Nat.le_of_ble_eq_true rfl⟩) (zqV hK hP [3, 4, 5, 6] rfl 3 rfl rfl) rfl rfl hl.1 rfl (lv_room (Nat.le_of_ble_eq_true rfl)) dX5_sumPlanned_17 ⟨Nat.le_of_ble_eq_true rfl, Nat.le_of_ble_eq_true rfl⟩) ?_
  have e_2 := @ll_r due lat (-1) un nJ _ hlat (by omega) hnJ
  refine lv_istore (lv' := [(10, .int (iI (llZ due lat (-1) un nJ))), (9, .int (iI (swN due lat un nJ (un + 1).toNat (-1)))), (8, .int (iI now)), (6, .long (lI 0)), (0, .ref h0), (1, .ref g0), (2, .int (iI now)), (3, .int (iI un)), (4, .ref k0), (5, .int (iI d))]) hx hb dX5_sumPlanned_20 hl (by decide) rfl (fun ls hl => ?_)
  refine lv_iconst (v := iI 0) hx hb dX5_sumPlanned_22 rfl ?_
  refine lv_istore (lv' := [(11, .int (iI 0)), (10, .int (iI (llZ due lat (-1) un nJ))), (9, .int (iI (swN due lat un nJ (un + 1).toNat (-1)))), (8, .int (iI now)), (6, .long (lI 0)), (0, .ref h0), (1, .ref g0), (2, .int (iI now)), (3, .int (iI un)), (4, .ref k0), (5, .int (iI d))]) hx hb dX5_sumPlanned_23 hl (by decide) rfl (fun ls hl => ?_)
  have L25 : ∀ (fuel : Nat) (p9 : Int) (s9 : Int) (fr : Int) (x9 : Int) (l9 : Int) (f9 : Nat), (x9 = llZ due lat l9 un nJ) → (0 ≤ p9 ∧ p9 ≤ swN due lat un nJ (un + 1).toNat (-1)) → (now ≤ fr ∧ fr ≤ un ∧ l9 ≤ fr ∧ (fr = now ∨ fr = l9)) → (0 ≤ s9 ∧ s9 ≤ p9 * 1110000) → (-1 ≤ l9 ∧ un - l9 ≤ f9 ∧ (l9 < un ∧ 0 < f9)) → (swN due lat un nJ (un + 1).toNat (-1) = p9 + swN due lat un nJ f9 l9) → (plN (pcZ pw co la d) due lat un nJ (un + 1).toNat now (-1) = s9 + plN (pcZ pw co la d) due lat un nJ f9 fr l9) → ((swN due lat un nJ (un + 1).toNat (-1) - p9).toNat) < fuel → ∀ ls : Array Slot, lv_has ls 12 [(11, .int (iI p9)), (10, .int (iI x9)), (9, .int (iI (swN due lat un nJ (un + 1).toNat (-1)))), (8, .int (iI fr)), (6, .long (lI s9)), (0, .ref h0), (1, .ref g0), (2, .int (iI now)), (3, .int (iI un)), (4, .ref k0), (5, .int (iI d))] → W p l e rmX5_sumPlanned s m ([.ref h0, .ref g0, .int (iI now), .int (iI un), .ref k0, .int (iI d)] : List Value).toArray below meth c s.heap [] 0 0 Q (F0 m 25 ls []) := by
    intro fuel
    induction fuel with
    | zero =>
      intro p9 s9 fr x9 l9 f9 hx9 hp9 hfr hs9 hl9 hW hI hmeas ls hl
      exact absurd hmeas (by omega)
    | succ fuel ih =>
      intro p9 s9 fr x9 l9 f9 hx9 hp9 hfr hs9 hl9 hW hI hmeas ls hl
      have hq9 := ll_np (due := due) (w := l9) (un := un) hnJ.1 hl8
      have hx8 : -1 ≤ x9 ∧ x9 ≤ 1000000 := by rw [hx9]; exact @ll_r due lat l9 un nJ _ hlat (by omega) hnJ
      have hW8 := Int.le_trans (sw_cn (due := due) (lat := lat) (un := un) hnJ.1 hdl (un + 1).toNat (-1)) (cn_r (fun k => due k > -1) hnJ.1).2
      have hs8 := sw_r (due := due) (lat := lat) (un := un) (n := nJ) f9 l9
      refine lv_iload hx hb dX5_sumPlanned_25 (lv_at hl 0 rfl) ?_
      refine lv_iload hx hb dX5_sumPlanned_27 (lv_at hl 2 rfl) ?_
      refine zi_cge (tgt := 69) hx hb (by omega) (by omega) dX5_sumPlanned_29 (by decide) (fun c_3 => ?_) (fun c_3 => ?_)
      · skip
        refine lv_lload hx hb dX5_sumPlanned_69 (lv_at hl 4 rfl) ?_
        refine lv_aload hx hb dX5_sumPlanned_71 (lv_at hl 9 rfl) ?_
        refine lv_iload hx hb dX5_sumPlanned_73 (lv_at hl 10 rfl) ?_
        refine lv_iload_n hx hb dX5_sumPlanned_75 rfl (lv_at hl 8 rfl) ?_
        refine lv_iload hx hb dX5_sumPlanned_76 (lv_at hl 3 rfl) ?_
        refine zi_sub hx hb dX5_sumPlanned_78 ?_
        refine zc_pi (va_runV (As := [.int (iI d), .int (iI (un - fr))]) (rest := [.long (lI s9)]) ⟨hx, hb, hml, hown, hts⟩ (kX6_plannedIdleCost l dC dI cI cJ cZ k0 k1 k2 k3 pw co la d (un - fr) (by first | assumption | omega | exact b2i_01 _) (by first | assumption | omega | exact b2i_01 _) (by first | assumption | omega | exact b2i_01 _) (by first | assumption | omega | exact b2i_01 _) (by first | assumption | omega | exact b2i_01 _)) (cwV 2 hts gX5_sumPlanned_X6_plannedIdleCost rfl rfl rfl (by decide +kernel) ⟨Nat.le_of_ble_eq_true rfl, Nat.le_of_ble_eq_true rfl⟩) (zqV hK hP [7, 8, 9, 10] rfl 7 rfl rfl) rfl rfl hl.1 rfl (lv_room (Nat.le_of_ble_eq_true rfl)) dX5_sumPlanned_79 ⟨Nat.le_of_ble_eq_true rfl, Nat.le_of_ble_eq_true rfl⟩) ?_
        have e_4 := (pc_r hpw hco hla hl0 hd (by omega) : 0 ≤ icZ pw co la (dpZ (okE pw co la ((un - fr))) d) ((un - fr)) ∧ icZ pw co la (dpZ (okE pw co la ((un - fr))) d) ((un - fr)) ≤ 1110000)
        refine zi_l hx hb (by omega) dX5_sumPlanned_82 ?_
        refine zl_add hx hb dX5_sumPlanned_83 ?_
        subst hQ
        exact zret_pl hx hb hr hlocks dX5_sumPlanned_84 (by rw [hI, pl_n (by (rcases hq9 with h8 | h8); exact h8.2; (exfalso; have h7 := @sw_y due lat un nJ f9 l9 (by omega) (by omega); have h6 := sw_r (due := due) (lat := lat) (un := un) (n := nJ) (f9 - 1) (npZ due lat l9 un nJ); omega)) (by omega)]; rfl)
      · skip
        have hq7 : npZ due lat l9 un nJ < un := by (rcases Int.lt_or_le (npZ due lat l9 un nJ) un with h8 | h8); exact h8; (exfalso; have h7 := @sw_n due lat un nJ f9 l9 (by omega); omega)
        have hq8 : npZ due lat l9 un nJ = x9 := by omega
        obtain ⟨k8, a1, a2, a3, a4⟩ := np_at hnJ.1 hq7
        have a5 := hdl k8 a1 a2
        have a6 := hnl k8 a1 a2
        refine lv_lload hx hb dX5_sumPlanned_32 (lv_at hl 4 rfl) ?_
        refine lv_aload hx hb dX5_sumPlanned_34 (lv_at hl 9 rfl) ?_
        refine lv_iload hx hb dX5_sumPlanned_36 (lv_at hl 10 rfl) ?_
        refine lv_iload hx hb dX5_sumPlanned_38 (lv_at hl 1 rfl) ?_
        refine lv_iload hx hb dX5_sumPlanned_40 (lv_at hl 3 rfl) ?_
        refine zi_sub hx hb dX5_sumPlanned_42 ?_
        refine zc_pi (va_runV (As := [.int (iI d), .int (iI (x9 - fr))]) (rest := [.long (lI s9)]) ⟨hx, hb, hml, hown, hts⟩ (kX6_plannedIdleCost l dC dI cI cJ cZ k0 k1 k2 k3 pw co la d (x9 - fr) (by first | assumption | omega | exact b2i_01 _) (by first | assumption | omega | exact b2i_01 _) (by first | assumption | omega | exact b2i_01 _) (by first | assumption | omega | exact b2i_01 _) (by first | assumption | omega | exact b2i_01 _)) (cwV 2 hts gX5_sumPlanned_X6_plannedIdleCost rfl rfl rfl (by decide +kernel) ⟨Nat.le_of_ble_eq_true rfl, Nat.le_of_ble_eq_true rfl⟩) (zqV hK hP [7, 8, 9, 10] rfl 7 rfl rfl) rfl rfl hl.1 rfl (lv_room (Nat.le_of_ble_eq_true rfl)) dX5_sumPlanned_43 ⟨Nat.le_of_ble_eq_true rfl, Nat.le_of_ble_eq_true rfl⟩) ?_
        have e_5 := (pc_r hpw hco hla hl0 hd (by omega) : 0 ≤ icZ pw co la (dpZ (okE pw co la ((x9 - fr))) d) ((x9 - fr)) ∧ icZ pw co la (dpZ (okE pw co la ((x9 - fr))) d) ((x9 - fr)) ≤ 1110000)
        refine zi_l hx hb (by omega) dX5_sumPlanned_46 ?_
        refine zl_add hx hb dX5_sumPlanned_47 ?_
        refine lv_lstore (lv' := [(6, .long (lI (s9 + (icZ pw co la (dpZ (okE pw co la (x9 - fr)) d) (x9 - fr))))), (11, .int (iI p9)), (10, .int (iI x9)), (9, .int (iI (swN due lat un nJ (un + 1).toNat (-1)))), (8, .int (iI fr)), (0, .ref h0), (1, .ref g0), (2, .int (iI now)), (3, .int (iI un)), (4, .ref k0), (5, .int (iI d))]) hx hb dX5_sumPlanned_48 hl (by decide) rfl (fun ls hl => ?_)
        refine lv_iload hx hb dX5_sumPlanned_50 (lv_at hl 2 rfl) ?_
        refine lv_istore (lv' := [(8, .int (iI x9)), (6, .long (lI (s9 + (icZ pw co la (dpZ (okE pw co la (x9 - fr)) d) (x9 - fr))))), (11, .int (iI p9)), (10, .int (iI x9)), (9, .int (iI (swN due lat un nJ (un + 1).toNat (-1)))), (0, .ref h0), (1, .ref g0), (2, .int (iI now)), (3, .int (iI un)), (4, .ref k0), (5, .int (iI d))]) hx hb dX5_sumPlanned_52 hl (by decide) rfl (fun ls hl => ?_)
        refine lv_aload_n hx hb dX5_sumPlanned_54 rfl (lv_at hl 6 rfl) ?_
        refine lv_iload hx hb dX5_sumPlanned_55 (lv_at hl 3 rfl) ?_
        refine lv_iload_n hx hb dX5_sumPlanned_57 rfl (lv_at hl 8 rfl) ?_
        refine zc_pi (va_runV (As := [.int (iI x9), .int (iI un)]) (rest := []) ⟨hx, hb, hml, hown, hts⟩ (kX3_leastLatest l dC dI cI cJ cZ g0 g1 g2 g3 due lat wk nJ x9 un (by first | assumption | omega | exact b2i_01 _) (by first | assumption | omega | exact b2i_01 _) (by first | assumption | omega | exact b2i_01 _) (by first | assumption | omega | exact b2i_01 _) (by first | assumption | omega | exact b2i_01 _) (by first | assumption | omega | exact b2i_01 _)) (cwV 2 hts gX5_sumPlanned_X3_leastLatest rfl rfl rfl (by decide +kernel) ⟨Nat.le_of_ble_eq_true rfl, Nat.le_of_ble_eq_true rfl⟩) (zqV hK hP [3, 4, 5, 6] rfl 3 rfl rfl) rfl rfl hl.1 rfl (lv_room (Nat.le_of_ble_eq_true rfl)) dX5_sumPlanned_58 ⟨Nat.le_of_ble_eq_true rfl, Nat.le_of_ble_eq_true rfl⟩) ?_
        have e_6 := @ll_r due lat x9 un nJ _ hlat (by omega) hnJ
        refine lv_istore (lv' := [(10, .int (iI (llZ due lat x9 un nJ))), (8, .int (iI x9)), (6, .long (lI (s9 + (icZ pw co la (dpZ (okE pw co la (x9 - fr)) d) (x9 - fr))))), (11, .int (iI p9)), (9, .int (iI (swN due lat un nJ (un + 1).toNat (-1)))), (0, .ref h0), (1, .ref g0), (2, .int (iI now)), (3, .int (iI un)), (4, .ref k0), (5, .int (iI d))]) hx hb dX5_sumPlanned_61 hl (by decide) rfl (fun ls hl => ?_)
        refine lv_iinc (v := iI (p9 + 1)) (lv' := [(11, .int (iI (p9 + 1))), (10, .int (iI (llZ due lat x9 un nJ))), (8, .int (iI x9)), (6, .long (lI (s9 + (icZ pw co la (dpZ (okE pw co la (x9 - fr)) d) (x9 - fr))))), (9, .int (iI (swN due lat un nJ (un + 1).toNat (-1)))), (0, .ref h0), (1, .ref g0), (2, .int (iI now)), (3, .int (iI un)), (4, .ref k0), (5, .int (iI d))]) hx hb dX5_sumPlanned_63 hl (k := 3) rfl (iI_add _ _) (by decide) rfl (fun ls hl => ?_)
        refine lv_goto (tgt := 25) hx hb dX5_sumPlanned_66 (by decide) ?_
        exact ih (p9 + 1) (s9 + (icZ pw co la (dpZ (okE pw co la (x9 - fr)) d) (x9 - fr))) x9 (llZ due lat x9 un nJ) x9 (f9 - 1) (rfl) (by omega) (by omega) (by omega) (by omega) (by rw [hW, sw_y hq7 (by omega), hq8]; omega) (by rw [hI, pl_y hq7 (by omega), hq8]; show _ + (icZ pw co la (dpZ (okE pw co la (x9 - fr)) d) (x9 - fr) + _) = _; omega) (by omega) ls (lv_sub hl [0, 1, 4, 2, 3, 5, 6, 7, 8, 9, 10] rfl)
  exact L25 (_ + 1) 0 0 now (llZ due lat (-1) un nJ) (-1) ((un + 1).toNat) (rfl) (by omega) (by omega) (by omega) (by omega) (by rw [Int.zero_add]) (by rw [Int.zero_add]) (Nat.lt_succ_self _) ls (lv_sub hl [0, 1, 2, 3, 4, 5, 6, 7, 8, 9, 10] rfl)
