def rmX5_earliestBefore : Room := { frames := 2, cells := 0, slots := 0, locals := 44 }
set_option maxRecDepth 100000 in
set_option maxHeartbeats 4000000 in
theorem kX5_earliestBefore (l : Launch) (dC : Nat → ClassId) (dI : Nat → Nat → Nat) (cI cJ cZ : ClassId) (h0 h1 h2 g0 g1 g2 g3 : Nat)  (sc : Int → Int) (lt : Int → Int) (due : Int → Int) (lat : Int → Int) (wk : Int → Int) (nJ : Int) (now start tick : Int) (hnJ : 0 ≤ nJ ∧ nJ ≤ 12) (hdue : rgZ due 12 1000000) (hlat : rgZ lat 12 1000000) (hwk : rgZ wk 12 50) (hnow : 0 ≤ now ∧ now ≤ 1000000) (hst : -1 ≤ start ∧ start ≤ 1000000) (htick : zR tick) : zPi l yX5_earliestBefore wsX5_earliestBefore rmX5_earliestBefore (dC, dI) (zT cI cJ cZ) (wPlJ cI cJ cZ h0 h1 h2 g0 g1 g2 g3 sc lt due lat wk nJ) [.ref h0, .ref g0, .int (iI now), .int (iI start), .int (iI tick)] (ebZ due lat nJ now start tick) := by
  refine zent_pi (cc := cX5_earliestBefore) (maxL := 6) (ret := (some .int)) (by decide +kernel) rfl (Nat.le_of_ble_eq_true rfl) ?_
  intro p e s m below meth c ls hE hP hK hl
  obtain ⟨hx, hb, hr, hml, hown, hts, hlocks, hmn⟩ := hE
  have hinX3 : ∀ w ∈ u_ws RX3 TX3 4, w ∈ wsX5_earliestBefore := by decide +kernel
  have hl : lv_has ls 6 [(0, .ref h0), (1, .ref g0), (2, .int (iI now)), (3, .int (iI start)), (4, .int (iI tick))] := hl
  refine z_gen (fun Q hQ => ?_)
  refine lv_aload_n hx hb dX5_earliestBefore_0 rfl (lv_at hl 1 rfl) ?_
  refine lv_iload hx hb dX5_earliestBefore_1 (lv_at hl 4 rfl) ?_
  refine zc_pi (va_runV (As := [.int (iI tick)]) (rest := []) ⟨hx, hb, hml, hown, hts⟩ (kX3_greatestDue l dC dI cI cJ cZ g0 g1 g2 g3 due lat wk nJ tick (by first | assumption | omega | exact b2i_01 _) (by first | assumption | omega | exact b2i_01 _) (by first | assumption | omega | exact b2i_01 _) (by first | assumption | omega | exact b2i_01 _) (by first | assumption | omega | exact b2i_01 _)) (cwV 1 hts gX5_earliestBefore_X3_greatestDue rfl rfl rfl (by decide +kernel) ⟨Nat.le_of_ble_eq_true rfl, Nat.le_of_ble_eq_true rfl⟩) (zqV hK hP [3, 4, 5, 6] rfl 3 rfl rfl) rfl rfl hl.1 rfl (lv_room (Nat.le_of_ble_eq_true rfl)) dX5_earliestBefore_3 ⟨Nat.le_of_ble_eq_true rfl, Nat.le_of_ble_eq_true rfl⟩) ?_
  have e_1 := @gd_r due lat tick nJ _ hdue (by omega) hnJ
  refine lv_istore (lv' := [(5, .int (iI (gdZ due lat tick nJ))), (0, .ref h0), (1, .ref g0), (2, .int (iI now)), (3, .int (iI start)), (4, .int (iI tick))]) hx hb dX5_earliestBefore_6 hl (by decide) rfl (fun ls hl => ?_)
  refine lv_iload hx hb dX5_earliestBefore_8 (lv_at hl 0 rfl) ?_
  refine lv_iconst (v := iI (-1)) hx hb dX5_earliestBefore_10 rfl ?_
  refine zi_cne (tgt := 18) hx hb (by omega) (by decide) dX5_earliestBefore_11 (by decide) (fun c_2 => ?_) (fun c_2 => ?_)
  · skip
    refine lv_iload hx hb dX5_earliestBefore_18 (lv_at hl 0 rfl) ?_
    refine lv_iload_n hx hb dX5_earliestBefore_20 rfl (lv_at hl 3 rfl) ?_
    refine zi_max hx hb (by rw [hml]; exact hl.1.symm) hown (hts _ (List.mem_of_getElem? (i := 1) rfl)) (hts _ (List.mem_of_getElem? (i := 2) rfl)) (hts _ (List.mem_of_getElem? (i := 3) rfl)) (hts _ (List.mem_of_getElem? (i := 4) rfl)) (Nat.le_of_ble_eq_true rfl) (Nat.le_of_ble_eq_true rfl) (Nat.le_of_ble_eq_true rfl) (Nat.le_of_ble_eq_true rfl) (by omega) (by omega) dX5_earliestBefore_21 ?_
    refine lv_iload_n hx hb dX5_earliestBefore_24 rfl (lv_at hl 4 rfl) ?_
    refine zi_sub hx hb dX5_earliestBefore_25 ?_
    subst hQ
    exact zret_pi hx hb hr hlocks dX5_earliestBefore_26 (by first | exact (if_pos (by omega)).symm | exact (if_neg (by omega)).symm)
  · skip
    refine lv_iconst (v := iI 0) hx hb dX5_earliestBefore_14 rfl ?_
    refine lv_goto (tgt := 26) hx hb dX5_earliestBefore_15 (by decide) ?_
    subst hQ
    exact zret_pi hx hb hr hlocks dX5_earliestBefore_26 (by first | exact (if_pos (by omega)).symm | exact (if_neg (by omega)).symm)
def rmX5_leastSumTo : Room := { frames := 1, cells := 0, slots := 0, locals := 21 }
set_option maxRecDepth 100000 in
set_option maxHeartbeats 4000000 in
theorem kX5_leastSumTo (l : Launch) (dC : Nat → ClassId) (dI : Nat → Nat → Nat) (cI cJ cZ : ClassId) (h0 h1 h2 : Nat)  (sc : Int → Int) (lt : Int → Int) (to eb : Int) (hsc : rgZ sc 402 1110000) (hlt : rgZ lt 402 1000000000000) (hto : 0 ≤ to ∧ to ≤ 401) (heb : zR eb) : zPl l yX5_leastSumTo wsX5_leastSumTo rmX5_leastSumTo (dC, dI) (zT cI cJ cZ) (wPl cI cJ cZ h0 h1 h2 sc lt) [.ref h0, .int (iI to), .int (iI eb)] (lsZ sc lt to (max eb 0)) := by
  refine zent_pl (cc := cX5_leastSumTo) (maxL := 8) (ret := (some .long)) (by decide +kernel) rfl (Nat.le_of_ble_eq_true rfl) ?_
  intro p e s m below meth c ls hE hP hK hl
  obtain ⟨hx, hb, hr, hml, hown, hts, hlocks, hmn⟩ := hE
  have hinX5 : ∀ w ∈ u_ws RX5 TX5 2, w ∈ wsX5_leastSumTo := by decide +kernel
  have hl : lv_has ls 8 [(0, .ref h0), (1, .int (iI to)), (2, .int (iI eb))] := hl
  refine z_gen (fun Q hQ => ?_)
  refine lv_ldc2 (v := lI 1000000000000) hx hb hown (hts _ (List.mem_of_getElem? (i := 1) rfl)) dX5_leastSumTo_0 ?_
  refine lv_lstore_n (lv' := [(3, .long (lI 1000000000000)), (0, .ref h0), (1, .int (iI to)), (2, .int (iI eb))]) hx hb dX5_leastSumTo_3 rfl hl (by decide) rfl (fun ls hl => ?_)
  refine lv_iload_n hx hb dX5_leastSumTo_4 rfl (lv_at hl 3 rfl) ?_
  refine lv_iconst (v := iI 0) hx hb dX5_leastSumTo_5 rfl ?_
  refine zi_max hx hb (by rw [hml]; exact hl.1.symm) hown (hts _ (List.mem_of_getElem? (i := 2) rfl)) (hts _ (List.mem_of_getElem? (i := 3) rfl)) (hts _ (List.mem_of_getElem? (i := 4) rfl)) (hts _ (List.mem_of_getElem? (i := 5) rfl)) (Nat.le_of_ble_eq_true rfl) (Nat.le_of_ble_eq_true rfl) (Nat.le_of_ble_eq_true rfl) (Nat.le_of_ble_eq_true rfl) (by omega) (by decide) dX5_leastSumTo_6 ?_
  refine lv_istore (lv' := [(5, .int (iI (max eb 0))), (3, .long (lI 1000000000000)), (0, .ref h0), (1, .int (iI to)), (2, .int (iI eb))]) hx hb dX5_leastSumTo_9 hl (by decide) rfl (fun ls hl => ?_)
  have L11 : ∀ (fuel : Nat) (f9 : Int) (x9 : Int), (max eb 0 ≤ f9 ∧ (f9 ≤ to ∨ f9 = max eb 0)) → (0 ≤ x9 ∧ x9 ≤ 1000000000000) → (x9 = foZ (lsF sc lt to (max eb 0)) 1000000000000 (f9 - max eb 0)) → ((to - f9).toNat) < fuel → ∀ ls : Array Slot, lv_has ls 8 [(5, .int (iI f9)), (3, .long (lI x9)), (0, .ref h0), (1, .int (iI to)), (2, .int (iI eb))] → W p l e rmX5_leastSumTo s m ([.ref h0, .int (iI to), .int (iI eb)] : List Value).toArray below meth c s.heap [] 0 0 Q (F0 m 11 ls []) := by
    intro fuel
    induction fuel with
    | zero =>
      intro f9 x9 hf9 hx8 hI hmeas ls hl
      exact absurd hmeas (by omega)
    | succ fuel ih =>
      intro f9 x9 hf9 hx8 hI hmeas ls hl
      refine lv_iload hx hb dX5_leastSumTo_11 (lv_at hl 0 rfl) ?_
      refine lv_iload_n hx hb dX5_leastSumTo_13 rfl (lv_at hl 3 rfl) ?_
      refine zi_cge (tgt := 52) hx hb (by omega) (by omega) dX5_leastSumTo_14 (by decide) (fun c_1 => ?_) (fun c_1 => ?_)
      · skip
        refine lv_lload_n hx hb dX5_leastSumTo_52 rfl (lv_at hl 1 rfl) ?_
        subst hQ
        exact zret_pl hx hb hr hlocks dX5_leastSumTo_53 (by rw [hI]; unfold lsZ; (rcases Int.lt_or_le f9 to with h8 | h8); omega; (rcases Int.lt_or_le to f9 with h7 | h7); rw [foZ_n _ _ (by omega), foZ_n _ _ (by omega)]; rw [show f9 = to by omega])
      · skip
        refine lv_aload_n hx hb dX5_leastSumTo_17 rfl (lv_at hl 2 rfl) ?_
        refine va_get (D := (dC, dI)) (ci := 5) (v := .ref h2) (C := RX5) (T := TX5) (N := 2) hx hb hts hinX5 hown hK.1 hP 0 rfl rfl 1 (by decide) (hts _ (List.mem_of_getElem? (i := 6) rfl)) (fun _ h9 => h9) rfl dX5_leastSumTo_18 ?_
        refine lv_iload hx hb dX5_leastSumTo_21 (lv_at hl 0 rfl) ?_
        refine za_lld hx hb hK hP 2 1 rfl rfl (by omega) (by omega) dX5_leastSumTo_23 ?_
        have e_2 := hlt f9 (by omega) (by omega)
        refine lv_aload_n hx hb dX5_leastSumTo_24 rfl (lv_at hl 2 rfl) ?_
        refine va_get (D := (dC, dI)) (ci := 5) (v := .ref h1) (C := RX5) (T := TX5) (N := 2) hx hb hts hinX5 hown hK.1 hP 0 rfl rfl 0 (by decide) (hts _ (List.mem_of_getElem? (i := 7) rfl)) (fun _ h9 => h9) rfl dX5_leastSumTo_25 ?_
        refine lv_iload_n hx hb dX5_leastSumTo_28 rfl (lv_at hl 3 rfl) ?_
        refine lv_iload hx hb dX5_leastSumTo_29 (lv_at hl 0 rfl) ?_
        refine zi_sub hx hb dX5_leastSumTo_31 ?_
        refine za_lld hx hb hK hP 1 1 rfl rfl (by omega) (by omega) dX5_leastSumTo_32 ?_
        have e_3 := hsc (to - f9) (by omega) (by omega)
        refine zl_add hx hb dX5_leastSumTo_33 ?_
        refine lv_lstore (lv' := [(6, .long (lI ((lt f9) + (sc (to - f9))))), (5, .int (iI f9)), (3, .long (lI x9)), (0, .ref h0), (1, .int (iI to)), (2, .int (iI eb))]) hx hb dX5_leastSumTo_34 hl (by decide) rfl (fun ls hl => ?_)
        refine lv_lload hx hb dX5_leastSumTo_36 (lv_at hl 0 rfl) ?_
        refine lv_lload_n hx hb dX5_leastSumTo_38 rfl (lv_at hl 2 rfl) ?_
        refine zl_cge (tgt := 46) hx hb (by omega) (by omega) dX5_leastSumTo_39 dX5_leastSumTo_40 (by decide) (fun c_4 => ?_) (fun c_4 => ?_)
        · skip
          refine lv_iinc (v := iI (f9 + 1)) (lv' := [(5, .int (iI (f9 + 1))), (6, .long (lI ((lt f9) + (sc (to - f9))))), (3, .long (lI x9)), (0, .ref h0), (1, .int (iI to)), (2, .int (iI eb))]) hx hb dX5_leastSumTo_46 hl (k := 1) rfl (iI_add _ _) (by decide) rfl (fun ls hl => ?_)
          refine lv_goto (tgt := 11) hx hb dX5_leastSumTo_49 (by decide) ?_
          exact ih (f9 + 1) x9 (by omega) (by omega) (by rw [show f9 + 1 - max eb 0 = f9 - max eb 0 + 1 by omega, foZ_s _ _ (by omega), ← hI]; unfold lsF; rw [show max eb 0 + (f9 - max eb 0) = f9 by omega]; first | exact (if_pos (by omega)).symm | exact (if_neg (by omega)).symm) (by omega) ls (lv_sub hl [0, 2, 3, 4, 5] rfl)
        · skip
          refine lv_lload hx hb dX5_leastSumTo_43 (lv_at hl 0 rfl) ?_
          refine lv_lstore_n (lv' := [(3, .long (lI ((lt f9) + (sc (to - f9))))), (6, .long (lI ((lt f9) + (sc (to - f9))))), (5, .int (iI f9)), (0, .ref h0), (1, .int (iI to)), (2, .int (iI eb))]) hx hb dX5_leastSumTo_45 rfl hl (by decide) rfl (fun ls hl => ?_)
          refine lv_iinc (v := iI (f9 + 1)) (lv' := [(5, .int (iI (f9 + 1))), (3, .long (lI ((lt f9) + (sc (to - f9))))), (6, .long (lI ((lt f9) + (sc (to - f9))))), (0, .ref h0), (1, .int (iI to)), (2, .int (iI eb))]) hx hb dX5_leastSumTo_46 hl (k := 2) rfl (iI_add _ _) (by decide) rfl (fun ls hl => ?_)
          refine lv_goto (tgt := 11) hx hb dX5_leastSumTo_49 (by decide) ?_
          exact ih (f9 + 1) ((lt f9) + (sc (to - f9))) (by omega) (by omega) (by rw [show f9 + 1 - max eb 0 = f9 - max eb 0 + 1 by omega, foZ_s _ _ (by omega), ← hI]; unfold lsF; rw [show max eb 0 + (f9 - max eb 0) = f9 by omega]; first | exact (if_pos (by omega)).symm | exact (if_neg (by omega)).symm) (by omega) ls (lv_sub hl [0, 1, 3, 4, 5] rfl)
  exact L11 (_ + 1) (max eb 0) 1000000000000 (by omega) (by omega) (by rw [Int.sub_self]; rfl) (Nat.lt_succ_self _) ls (lv_sub hl [0, 1, 2, 3, 4] rfl)
def rmX5_leastSum : Room := { frames := 3, cells := 0, slots := 0, locals := 69 }
set_option maxRecDepth 100000 in
set_option maxHeartbeats 4000000 in
theorem kX5_leastSum (l : Launch) (dC : Nat → ClassId) (dI : Nat → Nat → Nat) (cI cJ cZ : ClassId) (h0 h1 h2 g0 g1 g2 g3 : Nat)  (sc : Int → Int) (lt : Int → Int) (due : Int → Int) (lat : Int → Int) (wk : Int → Int) (nJ : Int) (now start en : Int) (hnJ : 0 ≤ nJ ∧ nJ ≤ 12) (hdue : rgZ due 12 1000000) (hlat : rgZ lat 12 1000000) (hwk : rgZ wk 12 50) (hsc : rgZ sc 402 1110000) (hlt : rgZ lt 402 1000000000000) (hnow : 0 ≤ now ∧ now ≤ 1000000) (hst : -1 ≤ start ∧ start ≤ en ∧ en ≤ start + 401 ∧ en ≤ 1000000) : zMl l yX5_leastSum wsX5_leastSum rmX5_leastSum (dC, dI) (zT cI cJ cZ) (wPlJ cI cJ cZ h0 h1 h2 g0 g1 g2 g3 sc lt due lat wk nJ) [.ref h0, .ref g0, .int (iI now), .int (iI start), .int (iI en)] (fun (r9 : Int) (_ : Unit) => r9 = ltZ sc (fun to => ebZ due lat nJ now start (start + to)) lt (en - start) (en - start)) (fun _ : Unit => wPlJ cI cJ cZ h0 h1 h2 g0 g1 g2 g3 sc (ltZ sc (fun to => ebZ due lat nJ now start (start + to)) lt (en - start)) due lat wk nJ) 0 0 := by
  refine zent_l (cc := cX5_leastSum) (maxL := 7) (ret := (some .long)) (by decide +kernel) rfl (Nat.le_of_ble_eq_true rfl) ?_
  intro p e s m below meth c A ls hE hP hK hA hD hS hl
  obtain ⟨hx, hb, hr, hml, hown, hts, hlocks, hmn⟩ := hE
  have hinX5 : ∀ w ∈ u_ws RX5 TX5 2, w ∈ wsX5_leastSum := by decide +kernel
  have hinX3 : ∀ w ∈ u_ws RX3 TX3 4, w ∈ wsX5_leastSum := by decide +kernel
  have hl : lv_has ls 7 [(0, .ref h0), (1, .ref g0), (2, .int (iI now)), (3, .int (iI start)), (4, .int (iI en))] := hl
  refine z_gen (fun Q hQ => ?_)
  refine lv_iload hx hb dX5_leastSum_0 (lv_at hl 4 rfl) ?_
  refine lv_iload_n hx hb dX5_leastSum_2 rfl (lv_at hl 3 rfl) ?_
  refine zi_sub hx hb dX5_leastSum_3 ?_
  refine lv_istore (lv' := [(5, .int (iI (en - start))), (0, .ref h0), (1, .ref g0), (2, .int (iI now)), (3, .int (iI start)), (4, .int (iI en))]) hx hb dX5_leastSum_4 hl (by decide) rfl (fun ls hl => ?_)
  refine lv_iload hx hb dX5_leastSum_6 (lv_at hl 0 rfl) ?_
  refine zi_flt (tgt := 19) hx hb (by omega) dX5_leastSum_8 (by decide) (fun c_1 => ?_) (fun c_1 => ?_)
  · skip
    exact absurd c_1 (by omega)
  · skip
    refine lv_iload hx hb dX5_leastSum_11 (lv_at hl 0 rfl) ?_
    refine lv_sipush (v := iI 402) hx hb dX5_leastSum_13 (by decide) ?_
    refine zi_clt (tgt := 21) hx hb (by omega) (by decide) dX5_leastSum_16 (by decide) (fun c_2 => ?_) (fun c_2 => ?_)
    · skip
      refine lv_aload_n hx hb dX5_leastSum_21 rfl (lv_at hl 1 rfl) ?_
      refine va_get (D := (dC, dI)) (ci := 5) (v := .ref h2) (C := RX5) (T := TX5) (N := 2) hx hb hts hinX5 hown hK.1 hP 0 rfl rfl 1 (by decide) (hts _ (List.mem_of_getElem? (i := 1) rfl)) (fun _ h9 => h9) rfl dX5_leastSum_22 ?_
      refine lv_iconst (v := iI 0) hx hb dX5_leastSum_25 rfl ?_
      refine lv_lconst (v := lI 0) hx hb dX5_leastSum_26 rfl ?_
      refine za_lst hx hb hK hP hD hS 2 1 rfl rfl (by omega) (by omega) dX5_leastSum_27 (fun H locs hP hD hS => ?_)
      have hP : va_P (dC, dI) vwCl (wPlJ cI cJ cZ h0 h1 h2 g0 g1 g2 g3 sc (uZ lt 0 0) due lat wk nJ) H := hP
      have hD : va_D A (wPlJ cI cJ cZ h0 h1 h2 g0 g1 g2 g3 sc (uZ lt 0 0) due lat wk nJ) := hD
      refine lv_iconst (v := iI 1) hx hb dX5_leastSum_28 rfl ?_
      refine lv_istore (lv' := [(6, .int (iI 1)), (5, .int (iI (en - start))), (0, .ref h0), (1, .ref g0), (2, .int (iI now)), (3, .int (iI start)), (4, .int (iI en))]) hx hb dX5_leastSum_29 hl (by decide) rfl (fun ls hl => ?_)
      have L31 : ∀ (fuel : Nat) (to9 : Int), (1 ≤ to9 ∧ to9 ≤ en - start + 1) → ((en - start + 1 - to9).toNat) < fuel → ∀ (H : Heap) (locs : List Loc), va_P (dC, dI) vwCl (wPlJ cI cJ cZ h0 h1 h2 g0 g1 g2 g3 sc (ltZ sc (fun to => ebZ due lat nJ now start (start + to)) lt (to9 - 1)) due lat wk nJ) H → va_D A (wPlJ cI cJ cZ h0 h1 h2 g0 g1 g2 g3 sc (ltZ sc (fun to => ebZ due lat nJ now start (start + to)) lt (to9 - 1)) due lat wk nJ) → va_S A s.heap H locs → ∀ ls : Array Slot, lv_has ls 7 [(6, .int (iI to9)), (5, .int (iI (en - start))), (0, .ref h0), (1, .ref g0), (2, .int (iI now)), (3, .int (iI start)), (4, .int (iI en))] → W p l e rmX5_leastSum s m ([.ref h0, .ref g0, .int (iI now), .int (iI start), .int (iI en)] : List Value).toArray below meth c H locs 0 0 Q (F0 m 31 ls []) := by
        intro fuel
        induction fuel with
        | zero =>
          intro to9 hto hmeas H locs hP hD hS ls hl
          exact absurd hmeas (by omega)
        | succ fuel ih =>
          intro to9 hto hmeas H locs hP hD hS ls hl
          have hr9 := @ltz_r sc (fun to => ebZ due lat nJ now start (start + to)) lt (to9 - 1) hsc hlt (by omega) (by omega)
          refine lv_iload hx hb dX5_leastSum_31 (lv_at hl 0 rfl) ?_
          refine lv_iload hx hb dX5_leastSum_33 (lv_at hl 1 rfl) ?_
          refine zi_cgt (tgt := 68) hx hb (by omega) (by omega) dX5_leastSum_35 (by decide) (fun c_3 => ?_) (fun c_3 => ?_)
          · skip
            refine lv_aload_n hx hb dX5_leastSum_68 rfl (lv_at hl 2 rfl) ?_
            refine va_get (D := (dC, dI)) (ci := 5) (v := .ref h2) (C := RX5) (T := TX5) (N := 2) hx hb hts hinX5 hown hK.1 hP 0 rfl rfl 1 (by decide) (hts _ (List.mem_of_getElem? (i := 1) rfl)) (fun _ h9 => h9) rfl dX5_leastSum_69 ?_
            refine lv_iload hx hb dX5_leastSum_72 (lv_at hl 1 rfl) ?_
            refine za_lld hx hb hK hP 2 1 rfl rfl (by omega) (by omega) dX5_leastSum_74 ?_
            subst hQ
            have w_4 : (ltZ sc (fun to => ebZ due lat nJ now start (start + to)) lt (en - start)) = (ltZ sc (fun to => ebZ due lat nJ now start (start + to)) lt (to9 - 1)) := by rw [show to9 - 1 = en - start by omega]
            have hP : va_P (dC, dI) vwCl (wPlJ cI cJ cZ h0 h1 h2 g0 g1 g2 g3 sc (ltZ sc (fun to => ebZ due lat nJ now start (start + to)) lt (en - start)) due lat wk nJ) H := by rw [w_4]; exact hP
            have hD : va_D A (wPlJ cI cJ cZ h0 h1 h2 g0 g1 g2 g3 sc (ltZ sc (fun to => ebZ due lat nJ now start (start + to)) lt (en - start)) due lat wk nJ) := by rw [w_4]; exact hD
            exact zret_l (W1 := fun _ : Unit => wPlJ cI cJ cZ h0 h1 h2 g0 g1 g2 g3 sc (ltZ sc (fun to => ebZ due lat nJ now start (start + to)) lt (en - start)) due lat wk nJ) () hx hb hr hP hD hS hlocks dX5_leastSum_75 (by rw [show to9 - 1 = en - start by omega])
          · skip
            refine lv_aload_n hx hb dX5_leastSum_38 rfl (lv_at hl 2 rfl) ?_
            refine va_get (D := (dC, dI)) (ci := 5) (v := .ref h2) (C := RX5) (T := TX5) (N := 2) hx hb hts hinX5 hown hK.1 hP 0 rfl rfl 1 (by decide) (hts _ (List.mem_of_getElem? (i := 1) rfl)) (fun _ h9 => h9) rfl dX5_leastSum_39 ?_
            refine lv_iload hx hb dX5_leastSum_42 (lv_at hl 0 rfl) ?_
            refine lv_aload_n hx hb dX5_leastSum_44 rfl (lv_at hl 2 rfl) ?_
            refine lv_iload hx hb dX5_leastSum_45 (lv_at hl 0 rfl) ?_
            refine lv_aload_n hx hb dX5_leastSum_47 rfl (lv_at hl 2 rfl) ?_
            refine lv_aload_n hx hb dX5_leastSum_48 rfl (lv_at hl 3 rfl) ?_
            refine lv_iload_n hx hb dX5_leastSum_49 rfl (lv_at hl 4 rfl) ?_
            refine lv_iload_n hx hb dX5_leastSum_50 rfl (lv_at hl 5 rfl) ?_
            refine lv_iload_n hx hb dX5_leastSum_51 rfl (lv_at hl 5 rfl) ?_
            refine lv_iload hx hb dX5_leastSum_52 (lv_at hl 0 rfl) ?_
            refine zi_add hx hb dX5_leastSum_54 ?_
            refine zc_pi (va_runV (As := [.ref g0, .int (iI now), .int (iI start), .int (iI (start + to9))]) (rest := [.int (iI to9), .ref h0, .int (iI to9), .ref h2]) ⟨hx, hb, hml, hown, hts⟩ (kX5_earliestBefore l dC dI cI cJ cZ h0 h1 h2 g0 g1 g2 g3 sc (ltZ sc (fun to => ebZ due lat nJ now start (start + to)) lt (to9 - 1)) due lat wk nJ now start (start + to9) (by first | assumption | omega | exact b2i_01 _) (by first | assumption | omega | exact b2i_01 _) (by first | assumption | omega | exact b2i_01 _) (by first | assumption | omega | exact b2i_01 _) (by first | assumption | omega | exact b2i_01 _) (by first | assumption | omega | exact b2i_01 _) (by first | assumption | omega | exact b2i_01 _)) (cwV 4 hts gX5_leastSum_X5_earliestBefore rfl rfl rfl (by decide +kernel) ⟨Nat.le_of_ble_eq_true rfl, Nat.le_of_ble_eq_true rfl⟩) (zqV hK hP [0, 1, 2, 3, 4, 5, 6] rfl 0 rfl rfl) rfl rfl hl.1 rfl (lv_room (Nat.le_of_ble_eq_true rfl)) dX5_leastSum_55 ⟨Nat.le_of_ble_eq_true rfl, Nat.le_of_ble_eq_true rfl⟩) ?_
            have e_5 := @eb_r due lat nJ now start (start + to9) hdue hnJ hnow.1 (by omega)
            refine zc_pl (va_runV (As := [.int (iI to9), .int (iI (ebZ due lat nJ now start (start + to9)))]) (rest := [.int (iI to9), .ref h2]) ⟨hx, hb, hml, hown, hts⟩ (kX5_leastSumTo l dC dI cI cJ cZ h0 h1 h2 sc (ltZ sc (fun to => ebZ due lat nJ now start (start + to)) lt (to9 - 1)) to9 (ebZ due lat nJ now start (start + to9)) (by first | assumption | omega | exact b2i_01 _) (by first | assumption | omega | exact b2i_01 _) (by first | assumption | omega | exact b2i_01 _) (by first | assumption | omega | exact b2i_01 _)) (cwV 2 hts gX5_leastSum_X5_leastSumTo rfl rfl rfl (by decide +kernel) ⟨Nat.le_of_ble_eq_true rfl, Nat.le_of_ble_eq_true rfl⟩) (zqV hK hP [0, 1, 2] rfl 0 rfl rfl) rfl rfl hl.1 rfl (lv_room (Nat.le_of_ble_eq_true rfl)) dX5_leastSum_58 ⟨Nat.le_of_ble_eq_true rfl, Nat.le_of_ble_eq_true rfl⟩) ?_
            have e_6 := @ls_r2 sc _ to9 (max (ebZ due lat nJ now start (start + to9)) 0) hsc hr9 (by omega) (by omega)
            refine za_lst hx hb hK hP hD hS 2 1 rfl rfl (by omega) (by omega) dX5_leastSum_61 (fun H locs hP hD hS => ?_)
            have hP : va_P (dC, dI) vwCl (wPlJ cI cJ cZ h0 h1 h2 g0 g1 g2 g3 sc (uZ (ltZ sc (fun to => ebZ due lat nJ now start (start + to)) lt (to9 - 1)) to9 (lsZ sc (ltZ sc (fun to => ebZ due lat nJ now start (start + to)) lt (to9 - 1)) to9 (max (ebZ due lat nJ now start (start + to9)) 0))) due lat wk nJ) H := hP
            have hD : va_D A (wPlJ cI cJ cZ h0 h1 h2 g0 g1 g2 g3 sc (uZ (ltZ sc (fun to => ebZ due lat nJ now start (start + to)) lt (to9 - 1)) to9 (lsZ sc (ltZ sc (fun to => ebZ due lat nJ now start (start + to)) lt (to9 - 1)) to9 (max (ebZ due lat nJ now start (start + to9)) 0))) due lat wk nJ) := hD
            refine lv_iinc (v := iI (to9 + 1)) (lv' := [(6, .int (iI (to9 + 1))), (5, .int (iI (en - start))), (0, .ref h0), (1, .ref g0), (2, .int (iI now)), (3, .int (iI start)), (4, .int (iI en))]) hx hb dX5_leastSum_62 hl (k := 0) rfl (iI_add _ _) (by decide) rfl (fun ls hl => ?_)
            refine lv_goto (tgt := 31) hx hb dX5_leastSum_65 (by decide) ?_
            have w_7 : (ltZ sc (fun to => ebZ due lat nJ now start (start + to)) lt ((to9 + 1) - 1)) = (uZ (ltZ sc (fun to => ebZ due lat nJ now start (start + to)) lt (to9 - 1)) to9 (lsZ sc (ltZ sc (fun to => ebZ due lat nJ now start (start + to)) lt (to9 - 1)) to9 (max (ebZ due lat nJ now start (start + to9)) 0))) := by exact @ltz_s sc (fun to => ebZ due lat nJ now start (start + to)) lt to9 (by omega)
            have hP : va_P (dC, dI) vwCl (wPlJ cI cJ cZ h0 h1 h2 g0 g1 g2 g3 sc (ltZ sc (fun to => ebZ due lat nJ now start (start + to)) lt ((to9 + 1) - 1)) due lat wk nJ) H := by rw [w_7]; exact hP
            have hD : va_D A (wPlJ cI cJ cZ h0 h1 h2 g0 g1 g2 g3 sc (ltZ sc (fun to => ebZ due lat nJ now start (start + to)) lt ((to9 + 1) - 1)) due lat wk nJ) := by rw [w_7]; exact hD
            exact ih (to9 + 1) (by omega) (by omega) H locs hP hD hS ls (lv_sub hl [0, 1, 2, 3, 4, 5, 6] rfl)
      have w_8 : (ltZ sc (fun to => ebZ due lat nJ now start (start + to)) lt (1 - 1)) = (uZ lt 0 0) := by rfl
      have hP : va_P (dC, dI) vwCl (wPlJ cI cJ cZ h0 h1 h2 g0 g1 g2 g3 sc (ltZ sc (fun to => ebZ due lat nJ now start (start + to)) lt (1 - 1)) due lat wk nJ) H := by rw [w_8]; exact hP
      have hD : va_D A (wPlJ cI cJ cZ h0 h1 h2 g0 g1 g2 g3 sc (ltZ sc (fun to => ebZ due lat nJ now start (start + to)) lt (1 - 1)) due lat wk nJ) := by rw [w_8]; exact hD
      exact L31 (_ + 1) 1 (by omega) (Nat.lt_succ_self _) H locs hP hD hS ls (lv_sub hl [0, 1, 2, 3, 4, 5, 6] rfl)
    · skip
      exact absurd c_2 (by omega)
def rmX5_countFewest : Room := { frames := 4, cells := 0, slots := 0, locals := 95 }
set_option maxRecDepth 100000 in
set_option maxHeartbeats 4000000 in
theorem kX5_countFewest (l : Launch) (dC : Nat → ClassId) (dI : Nat → Nat → Nat) (cI cJ cZ : ClassId) (h0 h1 h2 g0 g1 g2 g3 : Nat)  (sc : Int → Int) (lt : Int → Int) (due : Int → Int) (lat : Int → Int) (wk : Int → Int) (nJ : Int) (now un : Int) (hnJ : 0 ≤ nJ ∧ nJ ≤ 12) (hdue : rgZ due 12 1000000) (hlat : rgZ lat 12 1000000) (hwk : rgZ wk 12 50) (hsc : rgZ sc 402 1110000) (hlt : rgZ lt 402 1000000000000) (hnow : 0 ≤ now ∧ now ≤ 1000000) (hun : now ≤ un ∧ un ≤ now + 400 ∧ un ≤ 1000000) (hdl : ∀ j : Int, 0 ≤ j → j < nJ → due j ≤ lat j) (hnl : ∀ j : Int, 0 ≤ j → j < nJ → now ≤ lat j) : zMi l yX5_countFewest wsX5_countFewest rmX5_countFewest (dC, dI) (zT cI cJ cZ) (wPlJ cI cJ cZ h0 h1 h2 g0 g1 g2 g3 sc lt due lat wk nJ) [.ref h0, .ref g0, .int (iI now), .int (iI un)] (fun (r9 : Int) (u9 : (Int → Int) × (Int → Int)) => r9 = ltZ (scZ (fun _ => 1) sc 402) (fun to => ebZ due lat nJ now (now - 1) ((now - 1) + to)) lt (un - (now - 1)) (un - (now - 1)) - 1 ∧ ((u9.1) = scZ (fun _ => 1) sc 402 ∧ (u9.2) = ltZ (scZ (fun _ => 1) sc 402) (fun to => ebZ due lat nJ now (now - 1) ((now - 1) + to)) lt (un - (now - 1)))) (fun u9 : (Int → Int) × (Int → Int) => wPlJ cI cJ cZ h0 h1 h2 g0 g1 g2 g3 (u9.1) (u9.2) due lat wk nJ) 0 0 := by
  refine zent_i (cc := cX5_countFewest) (maxL := 5) (ret := (some .int)) (by decide +kernel) rfl (Nat.le_of_ble_eq_true rfl) ?_
  intro p e s m below meth c A ls hE hP hK hA hD hS hl
  obtain ⟨hx, hb, hr, hml, hown, hts, hlocks, hmn⟩ := hE
  have hinX5 : ∀ w ∈ u_ws RX5 TX5 2, w ∈ wsX5_countFewest := by decide +kernel
  have hinX3 : ∀ w ∈ u_ws RX3 TX3 4, w ∈ wsX5_countFewest := by decide +kernel
  have hl : lv_has ls 5 [(0, .ref h0), (1, .ref g0), (2, .int (iI now)), (3, .int (iI un))] := hl
  refine z_gen (fun Q hQ => ?_)
  refine lv_iconst (v := iI 0) hx hb dX5_countFewest_0 rfl ?_
  refine lv_istore (lv' := [(4, .int (iI 0)), (0, .ref h0), (1, .ref g0), (2, .int (iI now)), (3, .int (iI un))]) hx hb dX5_countFewest_1 hl (by decide) rfl (fun ls hl => ?_)
  have L3 : ∀ (fuel : Nat) (k9 : Int), (0 ≤ k9 ∧ k9 ≤ 402) → ((402 - k9).toNat) < fuel → ∀ (H : Heap) (locs : List Loc), va_P (dC, dI) vwCl (wPlJ cI cJ cZ h0 h1 h2 g0 g1 g2 g3 (scZ (fun _ => 1) sc k9) lt due lat wk nJ) H → va_D A (wPlJ cI cJ cZ h0 h1 h2 g0 g1 g2 g3 (scZ (fun _ => 1) sc k9) lt due lat wk nJ) → va_S A s.heap H locs → ∀ ls : Array Slot, lv_has ls 5 [(4, .int (iI k9)), (0, .ref h0), (1, .ref g0), (2, .int (iI now)), (3, .int (iI un))] → W p l e rmX5_countFewest s m ([.ref h0, .ref g0, .int (iI now), .int (iI un)] : List Value).toArray below meth c H locs 0 0 Q (F0 m 3 ls []) := by
    intro fuel
    induction fuel with
    | zero =>
      intro k9 hk9 hmeas H locs hP hD hS ls hl
      exact absurd hmeas (by omega)
    | succ fuel ih =>
      intro k9 hk9 hmeas H locs hP hD hS ls hl
      have hsc9 := @sc_r (fun _ => 1) sc k9 (fun j _ _ => by show (0 : Int) ≤ 1 ∧ (1 : Int) ≤ 1110000; omega) hsc hk9.1 hk9.2
      refine lv_iload hx hb dX5_countFewest_3 (lv_at hl 0 rfl) ?_
      refine lv_sipush (v := iI 402) hx hb dX5_countFewest_5 (by decide) ?_
      refine zi_cge (tgt := 25) hx hb (by omega) (by decide) dX5_countFewest_8 (by decide) (fun c_1 => ?_) (fun c_1 => ?_)
      · skip
        have hb9 := @ltz_at (scZ (fun _ => 1) sc k9) (fun to => ebZ due lat nJ now (now - 1) ((now - 1) + to)) lt 1 (un - (now - 1)) (by rw [sc_at (by omega) 1 (by omega) (by omega)]; exact Int.le_refl _) (by omega) (by omega) (fun k h1 h2 => eb_lt hnJ.1 hdl hnl h1) (un - (now - 1)) (by omega) (Int.le_refl _)
        have hb8 := @ltz_r (scZ (fun _ => 1) sc k9) (fun to => ebZ due lat nJ now (now - 1) ((now - 1) + to)) lt (un - (now - 1)) hsc9 hlt (by omega) (by omega) (un - (now - 1)) (by omega) (by omega)
        refine lv_aload_n hx hb dX5_countFewest_25 rfl (lv_at hl 1 rfl) ?_
        refine lv_aload_n hx hb dX5_countFewest_26 rfl (lv_at hl 2 rfl) ?_
        refine lv_iload_n hx hb dX5_countFewest_27 rfl (lv_at hl 3 rfl) ?_
        refine lv_iload_n hx hb dX5_countFewest_28 rfl (lv_at hl 3 rfl) ?_
        refine lv_iconst (v := iI 1) hx hb dX5_countFewest_29 rfl ?_
        refine zi_sub hx hb dX5_countFewest_30 ?_
        refine lv_iload_n hx hb dX5_countFewest_31 rfl (lv_at hl 4 rfl) ?_
        refine zc_l (va_runV (As := [.ref g0, .int (iI now), .int (iI (now - 1)), .int (iI un)]) (rest := []) ⟨hx, hb, hml, hown, hts⟩ (kX5_leastSum l dC dI cI cJ cZ h0 h1 h2 g0 g1 g2 g3 (scZ (fun _ => 1) sc k9) lt due lat wk nJ now (now - 1) un (by first | assumption | omega | exact b2i_01 _) (by first | assumption | omega | exact b2i_01 _) (by first | assumption | omega | exact b2i_01 _) (by first | assumption | omega | exact b2i_01 _) (by first | assumption | omega | exact b2i_01 _) (by first | assumption | omega | exact b2i_01 _) (by first | assumption | omega | exact b2i_01 _) (by first | assumption | omega | exact b2i_01 _) H.size) (cwV 4 hts gX5_countFewest_X5_leastSum rfl rfl rfl (by decide +kernel) ⟨Nat.le_of_ble_eq_true rfl, Nat.le_of_ble_eq_true rfl⟩) (zpV hK hP hD [0, 1, 2, 3, 4, 5, 6] rfl rfl 0 rfl rfl) rfl rfl hl.1 rfl (lv_room (Nat.le_of_ble_eq_true rfl)) dX5_countFewest_32 ⟨Nat.le_of_ble_eq_true rfl, Nat.le_of_ble_eq_true rfl⟩) hP hD hS hA [0, 1, 2, 3, 4, 5, 6] [] rfl rfl rfl (by decide) (fun v_4 u_3 H locs r_2 hP hD hS => ?_)
        refine ze_l r_2 ?_
        have hP : va_P (dC, dI) vwCl (wPlJ cI cJ cZ h0 h1 h2 g0 g1 g2 g3 (scZ (fun _ => 1) sc k9) (ltZ (scZ (fun _ => 1) sc k9) (fun to => ebZ due lat nJ now (now - 1) ((now - 1) + to)) lt (un - (now - 1))) due lat wk nJ) H := hP
        have hD : va_D A (wPlJ cI cJ cZ h0 h1 h2 g0 g1 g2 g3 (scZ (fun _ => 1) sc k9) (ltZ (scZ (fun _ => 1) sc k9) (fun to => ebZ due lat nJ now (now - 1) ((now - 1) + to)) lt (un - (now - 1))) due lat wk nJ) := hD
        refine zl_i hx hb dX5_countFewest_35 ?_
        refine lv_iconst (v := iI 1) hx hb dX5_countFewest_36 rfl ?_
        refine zi_sub hx hb dX5_countFewest_37 ?_
        subst hQ
        exact zret_i (W1 := fun u9 : (Int → Int) × (Int → Int) => wPlJ cI cJ cZ h0 h1 h2 g0 g1 g2 g3 (u9.1) (u9.2) due lat wk nJ) (scZ (fun _ => 1) sc k9, ltZ (scZ (fun _ => 1) sc k9) (fun to => ebZ due lat nJ now (now - 1) ((now - 1) + to)) lt (un - (now - 1))) hx hb hr hP hD hS hlocks dX5_countFewest_38 (by (obtain rfl : k9 = 402 := by omega); exact ⟨rfl, rfl, rfl⟩)
      · skip
        refine lv_aload_n hx hb dX5_countFewest_11 rfl (lv_at hl 1 rfl) ?_
        refine va_get (D := (dC, dI)) (ci := 5) (v := .ref h1) (C := RX5) (T := TX5) (N := 2) hx hb hts hinX5 hown hK.1 hP 0 rfl rfl 0 (by decide) (hts _ (List.mem_of_getElem? (i := 1) rfl)) (fun _ h9 => h9) rfl dX5_countFewest_12 ?_
        refine lv_iload hx hb dX5_countFewest_15 (lv_at hl 0 rfl) ?_
        refine lv_lconst (v := lI 1) hx hb dX5_countFewest_17 rfl ?_
        refine za_lst hx hb hK hP hD hS 1 1 rfl rfl (by omega) (by omega) dX5_countFewest_18 (fun H locs hP hD hS => ?_)
        have hP : va_P (dC, dI) vwCl (wPlJ cI cJ cZ h0 h1 h2 g0 g1 g2 g3 (uZ (scZ (fun _ => 1) sc k9) k9 1) lt due lat wk nJ) H := hP
        have hD : va_D A (wPlJ cI cJ cZ h0 h1 h2 g0 g1 g2 g3 (uZ (scZ (fun _ => 1) sc k9) k9 1) lt due lat wk nJ) := hD
        refine lv_iinc (v := iI (k9 + 1)) (lv' := [(4, .int (iI (k9 + 1))), (0, .ref h0), (1, .ref g0), (2, .int (iI now)), (3, .int (iI un))]) hx hb dX5_countFewest_19 hl (k := 0) rfl (iI_add _ _) (by decide) rfl (fun ls hl => ?_)
        refine lv_goto (tgt := 3) hx hb dX5_countFewest_22 (by decide) ?_
        have w_5 : (scZ (fun _ => 1) sc (k9 + 1)) = (uZ (scZ (fun _ => 1) sc k9) k9 1) := by exact sc_s _ _ hk9.1
        have hP : va_P (dC, dI) vwCl (wPlJ cI cJ cZ h0 h1 h2 g0 g1 g2 g3 (scZ (fun _ => 1) sc (k9 + 1)) lt due lat wk nJ) H := by rw [w_5]; exact hP
        have hD : va_D A (wPlJ cI cJ cZ h0 h1 h2 g0 g1 g2 g3 (scZ (fun _ => 1) sc (k9 + 1)) lt due lat wk nJ) := by rw [w_5]; exact hD
        exact ih (k9 + 1) (by omega) (by omega) H locs hP hD hS ls (lv_sub hl [0, 1, 2, 3, 4] rfl)
  have w_6 : (scZ (fun _ => 1) sc 0) = sc := by rfl
  have hP : va_P (dC, dI) vwCl (wPlJ cI cJ cZ h0 h1 h2 g0 g1 g2 g3 (scZ (fun _ => 1) sc 0) lt due lat wk nJ) s.heap := by rw [w_6]; exact hP
  have hD : va_D A (wPlJ cI cJ cZ h0 h1 h2 g0 g1 g2 g3 (scZ (fun _ => 1) sc 0) lt due lat wk nJ) := by rw [w_6]; exact hD
  exact L3 (_ + 1) 0 (by omega) (Nat.lt_succ_self _) s.heap [] hP hD hS ls (lv_sub hl [0, 1, 2, 3, 4] rfl)
def rmX5_sumLeast : Room := { frames := 5, cells := 0, slots := 0, locals := 109 }
set_option maxRecDepth 100000 in
set_option maxHeartbeats 4000000 in
theorem kX5_sumLeast (l : Launch) (dC : Nat → ClassId) (dI : Nat → Nat → Nat) (cI cJ cZ : ClassId) (h0 h1 h2 g0 g1 g2 g3 k0 k1 k2 k3 : Nat)  (sc : Int → Int) (lt : Int → Int) (due : Int → Int) (lat : Int → Int) (wk : Int → Int) (nJ : Int) (pw : Int → Int) (co : Int → Int) (la : Int → Int) (now un d : Int) (hnJ : 0 ≤ nJ ∧ nJ ≤ 12) (hdue : rgZ due 12 1000000) (hlat : rgZ lat 12 1000000) (hwk : rgZ wk 12 50) (hsc : rgZ sc 402 1110000) (hlt : rgZ lt 402 1000000000000) (hnow : 0 ≤ now ∧ now ≤ 1000000) (hun : now ≤ un ∧ un ≤ now + 400 ∧ un ≤ 1000000) (hdl : ∀ j : Int, 0 ≤ j → j < nJ → due j ≤ lat j) (hnl : ∀ j : Int, 0 ≤ j → j < nJ → now ≤ lat j) (hpw : rgZ pw 4 1000) (hco : rgZ co 4 10000) (hla : rgZ la 4 100) (hl0 : la 0 = 0) (hd : 0 ≤ d ∧ d ≤ 3) : zMl l yX5_sumLeast wsX5_sumLeast rmX5_sumLeast (dC, dI) (zT cI cJ cZ) (wPlJS cI cJ cZ h0 h1 h2 g0 g1 g2 g3 k0 k1 k2 k3 sc lt due lat wk nJ pw co la) [.ref h0, .ref g0, .int (iI now), .int (iI un), .ref k0, .int (iI d)] (fun (r9 : Int) (u9 : (Int → Int) × (Int → Int)) => r9 = ltZ (scZ (fun j => liZ pw co la j d) sc 402) (fun to => ebZ due lat nJ now (now) ((now) + to)) lt (un - now) (un - now) ∧ ((u9.1) = scZ (fun j => liZ pw co la j d) sc 402 ∧ (u9.2) = ltZ (scZ (fun j => liZ pw co la j d) sc 402) (fun to => ebZ due lat nJ now (now) ((now) + to)) lt (un - now))) (fun u9 : (Int → Int) × (Int → Int) => wPlJS cI cJ cZ h0 h1 h2 g0 g1 g2 g3 k0 k1 k2 k3 (u9.1) (u9.2) due lat wk nJ pw co la) 0 0 := by
  refine zent_l (cc := cX5_sumLeast) (maxL := 7) (ret := (some .long)) (by decide +kernel) rfl (Nat.le_of_ble_eq_true rfl) ?_
  intro p e s m below meth c A ls hE hP hK hA hD hS hl
  obtain ⟨hx, hb, hr, hml, hown, hts, hlocks, hmn⟩ := hE
  have hinX5 : ∀ w ∈ u_ws RX5 TX5 2, w ∈ wsX5_sumLeast := by decide +kernel
  have hinX6 : ∀ w ∈ u_ws RX6 TX6 3, w ∈ wsX5_sumLeast := by decide +kernel
  have hinX3 : ∀ w ∈ u_ws RX3 TX3 4, w ∈ wsX5_sumLeast := by decide +kernel
  have hl : lv_has ls 7 [(0, .ref h0), (1, .ref g0), (2, .int (iI now)), (3, .int (iI un)), (4, .ref k0), (5, .int (iI d))] := hl
  refine z_gen (fun Q hQ => ?_)
  refine lv_iconst (v := iI 0) hx hb dX5_sumLeast_0 rfl ?_
  refine lv_istore (lv' := [(6, .int (iI 0)), (0, .ref h0), (1, .ref g0), (2, .int (iI now)), (3, .int (iI un)), (4, .ref k0), (5, .int (iI d))]) hx hb dX5_sumLeast_1 hl (by decide) rfl (fun ls hl => ?_)
  have L3 : ∀ (fuel : Nat) (k9 : Int), (0 ≤ k9 ∧ k9 ≤ 402) → ((402 - k9).toNat) < fuel → ∀ (H : Heap) (locs : List Loc), va_P (dC, dI) vwCl (wPlJS cI cJ cZ h0 h1 h2 g0 g1 g2 g3 k0 k1 k2 k3 (scZ (fun j => liZ pw co la j d) sc k9) lt due lat wk nJ pw co la) H → va_D A (wPlJS cI cJ cZ h0 h1 h2 g0 g1 g2 g3 k0 k1 k2 k3 (scZ (fun j => liZ pw co la j d) sc k9) lt due lat wk nJ pw co la) → va_S A s.heap H locs → ∀ ls : Array Slot, lv_has ls 7 [(6, .int (iI k9)), (0, .ref h0), (1, .ref g0), (2, .int (iI now)), (3, .int (iI un)), (4, .ref k0), (5, .int (iI d))] → W p l e rmX5_sumLeast s m ([.ref h0, .ref g0, .int (iI now), .int (iI un), .ref k0, .int (iI d)] : List Value).toArray below meth c H locs 0 0 Q (F0 m 3 ls []) := by
    intro fuel
    induction fuel with
    | zero =>
      intro k9 hk9 hmeas H locs hP hD hS ls hl
      exact absurd hmeas (by omega)
    | succ fuel ih =>
      intro k9 hk9 hmeas H locs hP hD hS ls hl
      have hsc9 := @sc_r (fun j => liZ pw co la j d) sc k9 (fun j h1 h2 => liZ_r hpw hco hla hl0 hd (by omega)) hsc hk9.1 hk9.2
      refine lv_iload hx hb dX5_sumLeast_3 (lv_at hl 0 rfl) ?_
      refine lv_sipush (v := iI 402) hx hb dX5_sumLeast_5 (by decide) ?_
      refine zi_cge (tgt := 34) hx hb (by omega) (by decide) dX5_sumLeast_8 (by decide) (fun c_1 => ?_) (fun c_1 => ?_)
      · skip
        refine lv_aload_n hx hb dX5_sumLeast_34 rfl (lv_at hl 1 rfl) ?_
        refine lv_aload_n hx hb dX5_sumLeast_35 rfl (lv_at hl 2 rfl) ?_
        refine lv_iload_n hx hb dX5_sumLeast_36 rfl (lv_at hl 3 rfl) ?_
        refine lv_iload_n hx hb dX5_sumLeast_37 rfl (lv_at hl 3 rfl) ?_
        refine lv_iload_n hx hb dX5_sumLeast_38 rfl (lv_at hl 4 rfl) ?_
        refine zc_l (va_runV (As := [.ref g0, .int (iI now), .int (iI now), .int (iI un)]) (rest := []) ⟨hx, hb, hml, hown, hts⟩ (kX5_leastSum l dC dI cI cJ cZ h0 h1 h2 g0 g1 g2 g3 (scZ (fun j => liZ pw co la j d) sc k9) lt due lat wk nJ now now un (by first | assumption | omega | exact b2i_01 _) (by first | assumption | omega | exact b2i_01 _) (by first | assumption | omega | exact b2i_01 _) (by first | assumption | omega | exact b2i_01 _) (by first | assumption | omega | exact b2i_01 _) (by first | assumption | omega | exact b2i_01 _) (by first | assumption | omega | exact b2i_01 _) (by first | assumption | omega | exact b2i_01 _) H.size) (cwV 4 hts gX5_sumLeast_X5_leastSum rfl rfl rfl (by decide +kernel) ⟨Nat.le_of_ble_eq_true rfl, Nat.le_of_ble_eq_true rfl⟩) (zpV hK hP hD [0, 1, 2, 3, 4, 5, 6] rfl rfl 0 rfl rfl) rfl rfl hl.1 rfl (lv_room (Nat.le_of_ble_eq_true rfl)) dX5_sumLeast_39 ⟨Nat.le_of_ble_eq_true rfl, Nat.le_of_ble_eq_true rfl⟩) hP hD hS hA [0, 1, 2, 3, 4, 5, 6] [7, 8, 9, 10] rfl rfl rfl (by decide) (fun v_4 u_3 H locs r_2 hP hD hS => ?_)
        refine ze_l r_2 ?_
        have hP : va_P (dC, dI) vwCl (wPlJS cI cJ cZ h0 h1 h2 g0 g1 g2 g3 k0 k1 k2 k3 (scZ (fun j => liZ pw co la j d) sc k9) (ltZ (scZ (fun j => liZ pw co la j d) sc k9) (fun to => ebZ due lat nJ now now (now + to)) lt (un - now)) due lat wk nJ pw co la) H := hP.sub [4, 5, 6, 7, 8, 9, 10, 0, 1, 2, 3] (z_fm rfl)
        have hD : va_D A (wPlJS cI cJ cZ h0 h1 h2 g0 g1 g2 g3 k0 k1 k2 k3 (scZ (fun j => liZ pw co la j d) sc k9) (ltZ (scZ (fun j => liZ pw co la j d) sc k9) (fun to => ebZ due lat nJ now now (now + to)) lt (un - now)) due lat wk nJ pw co la) := hD.sub [4, 5, 6, 7, 8, 9, 10, 0, 1, 2, 3] (by decide) rfl
        subst hQ
        exact zret_l (W1 := fun u9 : (Int → Int) × (Int → Int) => wPlJS cI cJ cZ h0 h1 h2 g0 g1 g2 g3 k0 k1 k2 k3 (u9.1) (u9.2) due lat wk nJ pw co la) (scZ (fun j => liZ pw co la j d) sc k9, ltZ (scZ (fun j => liZ pw co la j d) sc k9) (fun to => ebZ due lat nJ now now (now + to)) lt (un - now)) hx hb hr hP hD hS hlocks dX5_sumLeast_42 (by (obtain rfl : k9 = 402 := by omega); exact ⟨rfl, rfl, rfl⟩)
      · skip
        refine lv_aload_n hx hb dX5_sumLeast_11 rfl (lv_at hl 1 rfl) ?_
        refine va_get (D := (dC, dI)) (ci := 5) (v := .ref h1) (C := RX5) (T := TX5) (N := 2) hx hb hts hinX5 hown hK.1 hP 0 rfl rfl 0 (by decide) (hts _ (List.mem_of_getElem? (i := 1) rfl)) (fun _ h9 => h9) rfl dX5_sumLeast_12 ?_
        refine lv_iload hx hb dX5_sumLeast_15 (lv_at hl 0 rfl) ?_
        refine lv_aload hx hb dX5_sumLeast_17 (lv_at hl 5 rfl) ?_
        refine lv_iload hx hb dX5_sumLeast_19 (lv_at hl 6 rfl) ?_
        refine lv_iload hx hb dX5_sumLeast_21 (lv_at hl 0 rfl) ?_
        refine zc_pi (va_runV (As := [.int (iI d), .int (iI k9)]) (rest := [.int (iI k9), .ref h1]) ⟨hx, hb, hml, hown, hts⟩ (kX6_leastIdleCost l dC dI cI cJ cZ k0 k1 k2 k3 pw co la d k9 (by first | assumption | omega | exact b2i_01 _) (by first | assumption | omega | exact b2i_01 _) (by first | assumption | omega | exact b2i_01 _) (by first | assumption | omega | exact b2i_01 _) (by first | assumption | omega | exact b2i_01 _) (by first | assumption | omega | exact b2i_01 _)) (cwV 2 hts gX5_sumLeast_X6_leastIdleCost rfl rfl rfl (by decide +kernel) ⟨Nat.le_of_ble_eq_true rfl, Nat.le_of_ble_eq_true rfl⟩) (zqV hK hP [7, 8, 9, 10] rfl 7 rfl rfl) rfl rfl hl.1 rfl (lv_room (Nat.le_of_ble_eq_true rfl)) dX5_sumLeast_23 ⟨Nat.le_of_ble_eq_true rfl, Nat.le_of_ble_eq_true rfl⟩) ?_
        have e_5 := @liZ_r pw co la d k9 hpw hco hla hl0 hd (by omega)
        refine zi_l hx hb (by omega) dX5_sumLeast_26 ?_
        refine za_lst hx hb hK hP hD hS 1 1 rfl rfl (by omega) (by omega) dX5_sumLeast_27 (fun H locs hP hD hS => ?_)
        have hP : va_P (dC, dI) vwCl (wPlJS cI cJ cZ h0 h1 h2 g0 g1 g2 g3 k0 k1 k2 k3 (uZ (scZ (fun j => liZ pw co la j d) sc k9) k9 (liZ pw co la k9 d)) lt due lat wk nJ pw co la) H := hP
        have hD : va_D A (wPlJS cI cJ cZ h0 h1 h2 g0 g1 g2 g3 k0 k1 k2 k3 (uZ (scZ (fun j => liZ pw co la j d) sc k9) k9 (liZ pw co la k9 d)) lt due lat wk nJ pw co la) := hD
        refine lv_iinc (v := iI (k9 + 1)) (lv' := [(6, .int (iI (k9 + 1))), (0, .ref h0), (1, .ref g0), (2, .int (iI now)), (3, .int (iI un)), (4, .ref k0), (5, .int (iI d))]) hx hb dX5_sumLeast_28 hl (k := 0) rfl (iI_add _ _) (by decide) rfl (fun ls hl => ?_)
        refine lv_goto (tgt := 3) hx hb dX5_sumLeast_31 (by decide) ?_
        have w_6 : (scZ (fun j => liZ pw co la j d) sc (k9 + 1)) = (uZ (scZ (fun j => liZ pw co la j d) sc k9) k9 (liZ pw co la k9 d)) := by exact sc_s _ _ hk9.1
        have hP : va_P (dC, dI) vwCl (wPlJS cI cJ cZ h0 h1 h2 g0 g1 g2 g3 k0 k1 k2 k3 (scZ (fun j => liZ pw co la j d) sc (k9 + 1)) lt due lat wk nJ pw co la) H := by rw [w_6]; exact hP
        have hD : va_D A (wPlJS cI cJ cZ h0 h1 h2 g0 g1 g2 g3 k0 k1 k2 k3 (scZ (fun j => liZ pw co la j d) sc (k9 + 1)) lt due lat wk nJ pw co la) := by rw [w_6]; exact hD
        exact ih (k9 + 1) (by omega) (by omega) H locs hP hD hS ls (lv_sub hl [0, 1, 2, 3, 4, 5, 6] rfl)
  have w_7 : (scZ (fun j => liZ pw co la j d) sc 0) = sc := by rfl
  have hP : va_P (dC, dI) vwCl (wPlJS cI cJ cZ h0 h1 h2 g0 g1 g2 g3 k0 k1 k2 k3 (scZ (fun j => liZ pw co la j d) sc 0) lt due lat wk nJ pw co la) s.heap := by rw [w_7]; exact hP
  have hD : va_D A (wPlJS cI cJ cZ h0 h1 h2 g0 g1 g2 g3 k0 k1 k2 k3 (scZ (fun j => liZ pw co la j d) sc 0) lt due lat wk nJ pw co la) := by rw [w_7]; exact hD
  exact L3 (_ + 1) 0 (by omega) (Nat.lt_succ_self _) s.heap [] hP hD hS ls (lv_sub hl [0, 1, 2, 3, 4, 5, 6] rfl)
