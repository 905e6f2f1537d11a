abbrev wWA (cI cJ cZ : ClassId) (h0 : Nat)  (w : Int → Int) : va_W := [(h0, zA cI 12 w)]
abbrev wPW (cI cJ cZ : ClassId) (q : Nat → Nat)  (pw : Int → Int) (co : Int → Int) (la : Int → Int) (vo : Int → Int) (cpar : Int → Int) (fr : Int → Int) (cdee : Int → Int) (use : Int → Int) (run : Int → Int) (nC : Int) (tdue : Int → Int) (tlat : Int → Int) (twk : Int → Int) (nT : Int) (edue : Int → Int) (elat : Int → Int) (ewk : Int → Int) (nE : Int) (len : Int → Int) (cnt : Int) (tin : Int → Int) (sp : Int) (pe : Int) (slp : Int) (late : Int) (srv : Int) (hv : Int → Int) (av : Int) (bd : Int) (sh : Int) (sc : Int → Int) (lt : Int → Int) (rule : Int) (now : Int) (st : Int) (asl : Int) (idl : Int → Int) (idn : Int) (par : Int → Int) (div : Int → Int) (dee : Int → Int) (w : Int → Int) : va_W := [((q 0), .inr (7, [.ref (q 1), .ref (q 5), .ref (q 6), .ref (q 12), .ref (q 16), .ref (q 20), .ref (q 22), .ref (q 24), .ref (q 26), .int (iI rule), .int (iI now), .int (iI st), .int (iI asl)])), ((q 1), .inr (6, [.ref (q 2), .ref (q 3), .ref (q 4)])), ((q 2), zA cI 4 pw), ((q 3), zA cI 4 co), ((q 4), zA cI 4 la), ((q 5), zA cI 6 vo), ((q 6), .inr (1, [.ref (q 7), .ref (q 8), .ref (q 9), .ref (q 10), .ref (q 11), .int (iI nC)])), ((q 7), zA cI 8 cpar), ((q 8), zA cI 8 fr), ((q 9), zA cI 8 cdee), ((q 10), zA cI 8 use), ((q 11), zA cZ 8 run), ((q 12), .inr (3, [.ref (q 13), .ref (q 14), .ref (q 15), .int (iI nT)])), ((q 13), zA cI 12 tdue), ((q 14), zA cI 12 tlat), ((q 15), zA cI 12 twk), ((q 16), .inr (3, [.ref (q 17), .ref (q 18), .ref (q 19), .int (iI nE)])), ((q 17), zA cI 12 edue), ((q 18), zA cI 12 elat), ((q 19), zA cI 12 ewk), ((q 20), .inr (2, [.ref (q 21), .int (iI cnt)])), ((q 21), zA cI 4 len), ((q 22), .inr (4, [.ref (q 23), .long (lI sp), .long (lI pe), .int (iI slp), .int (iI late), .int (iI srv)])), ((q 23), zA cI 4 tin), ((q 24), .inr (0, [.ref (q 25), .int (iI av), .int (iI bd), .int (iI sh)])), ((q 25), zA cI 24 hv), ((q 26), .inr (5, [.ref (q 27), .ref (q 28)])), ((q 27), zAL cJ 402 sc), ((q 28), zAL cJ 402 lt), ((q 29), zA cI 12 w)]
def rmL_cell : Room := { frames := 0, cells := 0, slots := 0, locals := 0 }
set_option maxRecDepth 100000 in
set_option maxHeartbeats 4000000 in
theorem kL_cell (l : Launch) (b L : Nat) (xs : Nat → Int32) (k : Int) (hL : L ≤ 1000) (hk : 0 ≤ k ∧ k ≤ 1000) : Met l yL_cell wsL_cell rmL_cell (zXP b L xs [.ref b, .int (iI k)]) (vp_Si (fun r => r = iI (cellZ xs L k))) 0 0 (fun _ => False) := by
  refine z_ofW (cc := cL_cell) (maxL := 3) (ret := (some .int)) (by decide +kernel) rfl ?_
  intro p e s m args below meth c s₁ B hml hv
  obtain ⟨rfl, hX⟩ := hv
  have hX : va_X b L xs s s.heap := hX
  have hbl : b < s.heap.size := by obtain ⟨scr, h1, -⟩ := hX; exact (Array.getElem?_eq_some_iff.mp h1).1
  have hbA : ¬ (fun _ : Nat => False) b := fun h => h
  have hS : va_S (fun _ : Nat => False) s.heap s.heap [] := va_S.rf
  have h := lv_entry [.ref b, .int (iI k)] (n := 3) (Nat.le_of_ble_eq_true rfl)
  rw [lg_entry_eq]
  generalize (lg_sl ([.ref b, .int (iI k)])  ++ List.replicate (3 - (lg_sl ([.ref b, .int (iI k)])).length) Slot.unset).toArray = ls at h ⊢
  have hl : lv_has ls 3 [(0, .ref b), (1, .int (iI k))] := h
  have hx := B.exec
  have hb := B.bytes
  have hr := B.returns
  have hown := findClass_of_methodNamed B.named
  have hts := atoms_spec (ws := wsL_cell) B.pre
  have hlocks := B.notSynchronized
  have key : ∀ (v : Int) (ls : Array Slot), cellZ xs L k = celZ v k → lv_has ls 3 [(0, .ref b), (1, .int (iI k))] → W p l e rmL_cell s m [Value.ref b, .int (iI k)].toArray below meth c s.heap [] 0 0 (MQ below (vp_Si (fun r => r = iI (cellZ xs L k))) [Value.ref b, .int (iI k)].toArray s 0 0 (fun _ => False)) (F0 m 20 ls [.int (iI v)]) := by
    intro v ls hv hl
    refine lv_istore_n (lv' := [(2, .int (iI v)), (0, .ref b), (1, .int (iI k))]) hx hb dL_cell_20 rfl hl (by decide) rfl (fun ls hl => ?_)
    refine lv_iload_n hx hb dL_cell_21 rfl (lv_at hl 0 rfl) ?_
    refine lv_iload_n hx hb dL_cell_22 rfl (lv_at hl 0 rfl) ?_
    refine lv_bipush (v := iI 14) hx hb dL_cell_23 (by decide) ?_
    refine zi_ushr hx hb dL_cell_25 ?_
    refine zi_xor hx hb dL_cell_26 ?_
    refine lv_ldc (v := iI 1013904242) hx hb hown (hts _ (List.mem_of_getElem? (i := 1) rfl)) dL_cell_27 ?_
    refine zi_mul hx hb dL_cell_29 ?_
    refine lv_bipush (v := iI 71) hx hb dL_cell_30 (by decide) ?_
    refine lv_iload_n hx hb dL_cell_32 rfl (lv_at hl 2 rfl) ?_
    refine zi_mul hx hb dL_cell_33 ?_
    refine zi_add hx hb dL_cell_34 ?_
    refine zn_tI ?_
    exact zret_pi hx hb hr hlocks dL_cell_35 hv.symm
  refine lv_iload_n hx hb dL_cell_0 rfl (lv_at hl 1 rfl) ?_
  refine lv_aload_n hx hb dL_cell_1 rfl (lv_at hl 0 rfl) ?_
  refine va_slen hx hb hX hbl hbA hS dL_cell_2 ?_
  rw [show Int32.ofNat L = iI (L : Int) from (Int32.ofInt_eq_ofNat).symm]
  refine zi_cge (tgt := 12) hx hb (by omega) (by omega) dL_cell_3 (by decide) (fun c1 => ?_) (fun c1 => ?_)
  · refine lv_sipush (v := iI 27011) hx hb dL_cell_12 (by decide) ?_
    refine lv_iload_n hx hb dL_cell_15 rfl (lv_at hl 1 rfl) ?_
    refine lv_bipush (v := iI 19) hx hb dL_cell_16 (by decide) ?_
    refine zi_add hx hb dL_cell_18 ?_
    refine zi_mul hx hb dL_cell_19 ?_
    exact key _ ls (if_neg (by omega)) hl
  · refine lv_aload_n hx hb dL_cell_6 rfl (lv_at hl 0 rfl) ?_
    refine lv_iload_n hx hb dL_cell_7 rfl (lv_at hl 1 rfl) ?_
    refine va_sld hx hb hX hbl hbA hS (iI_in (by omega) (by omega)) dL_cell_8 ?_
    rw [show xs (iI k).toNatClampNeg = iI (sZ xs k) from by rw [iI_cl (by omega)]; exact (iI_tI _).symm]
    refine lv_goto (tgt := 20) hx hb dL_cell_9 (by decide) ?_
    exact key _ ls (if_pos (by omega)) hl
def rmL_some : Room := { frames := 0, cells := 0, slots := 0, locals := 0 }
set_option maxRecDepth 100000 in
set_option maxHeartbeats 4000000 in
theorem kL_some (l : Launch) (dC : Nat → ClassId) (dI : Nat → Nat → Nat) (cI cJ cZ : ClassId)   (x n : Int) (hx0 : zR x) (hn : 0 < n ∧ n ≤ 20000) : zPi l yL_some wsL_some rmL_some (dC, dI) (zT cI cJ cZ) (wNO cI cJ cZ ) [.int (iI x), .int (iI n)] (smZ x n) := by
  refine zent_pi (cc := cL_some) (maxL := 2) (ret := (some .int)) (by decide +kernel) rfl (Nat.le_of_ble_eq_true rfl) ?_
  intro p e s m below meth c ls hE hP hK hl
  obtain ⟨hx, hb, hr, hml, hown, hts, hlocks, hmn⟩ := hE
  have hl : lv_has ls 2 [(0, .int (iI x)), (1, .int (iI n))] := hl
  refine z_gen (fun Q hQ => ?_)
  have hq := ush_1 x
  refine lv_iload_n hx hb dL_some_0 rfl (lv_at hl 0 rfl) ?_
  refine lv_iconst (v := iI 1) hx hb dL_some_1 rfl ?_
  refine zi_ushr hx hb dL_some_2 ?_
  refine lv_iload_n hx hb dL_some_3 rfl (lv_at hl 1 rfl) ?_
  refine zi_rem hx hb (by omega) (by omega) dL_some_4 ?_
  subst hQ
  exact zret_pi hx hb hr hlocks dL_some_5 (by rfl)
def rmL_begins : Room := { frames := 0, cells := 0, slots := 0, locals := 0 }
set_option maxRecDepth 100000 in
set_option maxHeartbeats 4000000 in
theorem kL_begins (l : Launch) (dC : Nat → ClassId) (dI : Nat → Nat → Nat) (cI cJ cZ : ClassId) (h0 : Nat)  (w : Int → Int)  : zMv l yL_begins wsL_begins rmL_begins (dC, dI) (zT cI cJ cZ) (wWA cI cJ cZ h0 w) [.ref h0] (fun (_ : Unit) => True) (fun _ : Unit => wWA cI cJ cZ h0 (uZ (uZ (uZ (uZ (uZ (uZ (uZ (uZ (uZ (uZ w 0 100) 1 40) 2 10) 3 1) 5 20) 6 150) 7 600) 9 1) 10 3) 11 8)) 0 0 := by
  refine zent_v (cc := cL_begins) (maxL := 1) (ret := none) (by decide +kernel) rfl (Nat.le_of_ble_eq_true rfl) ?_
  intro p e s m below meth c A ls hE hP hK hA hD hS hl
  obtain ⟨hx, hb, hr, hml, hown, hts, hlocks, hmn⟩ := hE
  have hl : lv_has ls 1 [(0, .ref h0)] := hl
  refine z_gen (fun Q hQ => ?_)
  refine lv_aload_n hx hb dL_begins_0 rfl (lv_at hl 0 rfl) ?_
  refine lv_iconst (v := iI 0) hx hb dL_begins_1 rfl ?_
  refine lv_bipush (v := iI 100) hx hb dL_begins_2 (by decide) ?_
  refine za_st hx hb hK hP hD hS 0 0 rfl rfl (by omega) (by omega) dL_begins_4 (fun H locs hP hD hS => ?_)
  have hP : va_P (dC, dI) vwCl (wWA cI cJ cZ h0 (uZ w 0 100)) H := hP
  have hD : va_D A (wWA cI cJ cZ h0 (uZ w 0 100)) := hD
  refine lv_aload_n hx hb dL_begins_5 rfl (lv_at hl 0 rfl) ?_
  refine lv_iconst (v := iI 1) hx hb dL_begins_6 rfl ?_
  refine lv_bipush (v := iI 40) hx hb dL_begins_7 (by decide) ?_
  refine za_st hx hb hK hP hD hS 0 0 rfl rfl (by omega) (by omega) dL_begins_9 (fun H locs hP hD hS => ?_)
  have hP : va_P (dC, dI) vwCl (wWA cI cJ cZ h0 (uZ (uZ w 0 100) 1 40)) H := hP
  have hD : va_D A (wWA cI cJ cZ h0 (uZ (uZ w 0 100) 1 40)) := hD
  refine lv_aload_n hx hb dL_begins_10 rfl (lv_at hl 0 rfl) ?_
  refine lv_iconst (v := iI 2) hx hb dL_begins_11 rfl ?_
  refine lv_bipush (v := iI 10) hx hb dL_begins_12 (by decide) ?_
  refine za_st hx hb hK hP hD hS 0 0 rfl rfl (by omega) (by omega) dL_begins_14 (fun H locs hP hD hS => ?_)
  have hP : va_P (dC, dI) vwCl (wWA cI cJ cZ h0 (uZ (uZ (uZ w 0 100) 1 40) 2 10)) H := hP
  have hD : va_D A (wWA cI cJ cZ h0 (uZ (uZ (uZ w 0 100) 1 40) 2 10)) := hD
  refine lv_aload_n hx hb dL_begins_15 rfl (lv_at hl 0 rfl) ?_
  refine lv_iconst (v := iI 3) hx hb dL_begins_16 rfl ?_
  refine lv_iconst (v := iI 1) hx hb dL_begins_17 rfl ?_
  refine za_st hx hb hK hP hD hS 0 0 rfl rfl (by omega) (by omega) dL_begins_18 (fun H locs hP hD hS => ?_)
  have hP : va_P (dC, dI) vwCl (wWA cI cJ cZ h0 (uZ (uZ (uZ (uZ w 0 100) 1 40) 2 10) 3 1)) H := hP
  have hD : va_D A (wWA cI cJ cZ h0 (uZ (uZ (uZ (uZ w 0 100) 1 40) 2 10) 3 1)) := hD
  refine lv_aload_n hx hb dL_begins_19 rfl (lv_at hl 0 rfl) ?_
  refine lv_iconst (v := iI 5) hx hb dL_begins_20 rfl ?_
  refine lv_bipush (v := iI 20) hx hb dL_begins_21 (by decide) ?_
  refine za_st hx hb hK hP hD hS 0 0 rfl rfl (by omega) (by omega) dL_begins_23 (fun H locs hP hD hS => ?_)
  have hP : va_P (dC, dI) vwCl (wWA cI cJ cZ h0 (uZ (uZ (uZ (uZ (uZ w 0 100) 1 40) 2 10) 3 1) 5 20)) H := hP
  have hD : va_D A (wWA cI cJ cZ h0 (uZ (uZ (uZ (uZ (uZ w 0 100) 1 40) 2 10) 3 1) 5 20)) := hD
  refine lv_aload_n hx hb dL_begins_24 rfl (lv_at hl 0 rfl) ?_
  refine lv_bipush (v := iI 6) hx hb dL_begins_25 (by decide) ?_
  refine lv_sipush (v := iI 150) hx hb dL_begins_27 (by decide) ?_
  refine za_st hx hb hK hP hD hS 0 0 rfl rfl (by omega) (by omega) dL_begins_30 (fun H locs hP hD hS => ?_)
  have hP : va_P (dC, dI) vwCl (wWA cI cJ cZ h0 (uZ (uZ (uZ (uZ (uZ (uZ w 0 100) 1 40) 2 10) 3 1) 5 20) 6 150)) H := hP
  have hD : va_D A (wWA cI cJ cZ h0 (uZ (uZ (uZ (uZ (uZ (uZ w 0 100) 1 40) 2 10) 3 1) 5 20) 6 150)) := hD
  refine lv_aload_n hx hb dL_begins_31 rfl (lv_at hl 0 rfl) ?_
  refine lv_bipush (v := iI 7) hx hb dL_begins_32 (by decide) ?_
  refine lv_sipush (v := iI 600) hx hb dL_begins_34 (by decide) ?_
  refine za_st hx hb hK hP hD hS 0 0 rfl rfl (by omega) (by omega) dL_begins_37 (fun H locs hP hD hS => ?_)
  have hP : va_P (dC, dI) vwCl (wWA cI cJ cZ h0 (uZ (uZ (uZ (uZ (uZ (uZ (uZ w 0 100) 1 40) 2 10) 3 1) 5 20) 6 150) 7 600)) H := hP
  have hD : va_D A (wWA cI cJ cZ h0 (uZ (uZ (uZ (uZ (uZ (uZ (uZ w 0 100) 1 40) 2 10) 3 1) 5 20) 6 150) 7 600)) := hD
  refine lv_aload_n hx hb dL_begins_38 rfl (lv_at hl 0 rfl) ?_
  refine lv_bipush (v := iI 9) hx hb dL_begins_39 (by decide) ?_
  refine lv_iconst (v := iI 1) hx hb dL_begins_41 rfl ?_
  refine za_st hx hb hK hP hD hS 0 0 rfl rfl (by omega) (by omega) dL_begins_42 (fun H locs hP hD hS => ?_)
  have hP : va_P (dC, dI) vwCl (wWA cI cJ cZ h0 (uZ (uZ (uZ (uZ (uZ (uZ (uZ (uZ w 0 100) 1 40) 2 10) 3 1) 5 20) 6 150) 7 600) 9 1)) H := hP
  have hD : va_D A (wWA cI cJ cZ h0 (uZ (uZ (uZ (uZ (uZ (uZ (uZ (uZ w 0 100) 1 40) 2 10) 3 1) 5 20) 6 150) 7 600) 9 1)) := hD
  refine lv_aload_n hx hb dL_begins_43 rfl (lv_at hl 0 rfl) ?_
  refine lv_bipush (v := iI 10) hx hb dL_begins_44 (by decide) ?_
  refine lv_iconst (v := iI 3) hx hb dL_begins_46 rfl ?_
  refine za_st hx hb hK hP hD hS 0 0 rfl rfl (by omega) (by omega) dL_begins_47 (fun H locs hP hD hS => ?_)
  have hP : va_P (dC, dI) vwCl (wWA cI cJ cZ h0 (uZ (uZ (uZ (uZ (uZ (uZ (uZ (uZ (uZ w 0 100) 1 40) 2 10) 3 1) 5 20) 6 150) 7 600) 9 1) 10 3)) H := hP
  have hD : va_D A (wWA cI cJ cZ h0 (uZ (uZ (uZ (uZ (uZ (uZ (uZ (uZ (uZ w 0 100) 1 40) 2 10) 3 1) 5 20) 6 150) 7 600) 9 1) 10 3)) := hD
  refine lv_aload_n hx hb dL_begins_48 rfl (lv_at hl 0 rfl) ?_
  refine lv_bipush (v := iI 11) hx hb dL_begins_49 (by decide) ?_
  refine lv_bipush (v := iI 8) hx hb dL_begins_51 (by decide) ?_
  refine za_st hx hb hK hP hD hS 0 0 rfl rfl (by omega) (by omega) dL_begins_53 (fun H locs hP hD hS => ?_)
  have hP : va_P (dC, dI) vwCl (wWA cI cJ cZ h0 (uZ (uZ (uZ (uZ (uZ (uZ (uZ (uZ (uZ (uZ w 0 100) 1 40) 2 10) 3 1) 5 20) 6 150) 7 600) 9 1) 10 3) 11 8)) H := hP
  have hD : va_D A (wWA cI cJ cZ h0 (uZ (uZ (uZ (uZ (uZ (uZ (uZ (uZ (uZ (uZ w 0 100) 1 40) 2 10) 3 1) 5 20) 6 150) 7 600) 9 1) 10 3) 11 8)) := hD
  subst hQ
  exact zret_v (W1 := fun _ : Unit => wWA cI cJ cZ h0 (uZ (uZ (uZ (uZ (uZ (uZ (uZ (uZ (uZ (uZ w 0 100) 1 40) 2 10) 3 1) 5 20) 6 150) 7 600) 9 1) 10 3) 11 8)) () hx hb hr hP hD hS hlocks dL_begins_54 (by trivial)
def rmL_woke : Room := { frames := 1, cells := 0, slots := 0, locals := 20 }
set_option maxRecDepth 100000 in
set_option maxHeartbeats 4000000 in
theorem kL_woke (l : Launch) (dC : Nat → ClassId) (dI : Nat → Nat → Nat) (cI cJ cZ : ClassId) (q : Nat → Nat)  (pw : Int → Int) (co : Int → Int) (la : Int → Int) (vo : Int → Int) (cpar : Int → Int) (fr : Int → Int) (cdee : Int → Int) (use : Int → Int) (run : Int → Int) (nC : Int) (tdue : Int → Int) (tlat : Int → Int) (twk : Int → Int) (nT : Int) (edue : Int → Int) (elat : Int → Int) (ewk : Int → Int) (nE : Int) (len : Int → Int) (cnt : Int) (tin : Int → Int) (sp : Int) (pe : Int) (slp : Int) (late : Int) (srv : Int) (hv : Int → Int) (av : Int) (bd : Int) (sh : Int) (sc : Int → Int) (lt : Int → Int) (rule : Int) (now : Int) (st : Int) (asl : Int) (idl : Int → Int) (idn : Int) (par : Int → Int) (div : Int → Int) (dee : Int → Int) (s0 s1 wk : Int) (hst0 : st = 0) (hsp : sp = s1 + (if s0 = 0 then 0 else wk)) (hs0 : zR s0) (hwk : zR wk) : zPi l yL_woke wsL_woke rmL_woke (dC, dI) (zT cI cJ cZ) (wP cI cJ cZ q pw co la vo cpar fr cdee use run nC tdue tlat twk nT edue elat ewk nE len cnt tin sp pe slp late srv hv av bd sh sc lt rule now st asl idl idn par div dee) [.ref (q 0), .int (iI s0), .long (lI s1), .int (iI wk)] (1) := by
  refine zent_pi (cc := cL_woke) (maxL := 5) (ret := (some .boolean)) (by decide +kernel) rfl (Nat.le_of_ble_eq_true rfl) ?_
  intro p e s m below meth c ls hE hP hK hl
  obtain ⟨hx, hb, hr, hml, hown, hts, hlocks, hmn⟩ := hE
  have hinX7 : ∀ w ∈ u_ws RX7 TX7 13, w ∈ wsL_woke := by decide +kernel
  have hinX4 : ∀ w ∈ u_ws RX4 TX4 6, w ∈ wsL_woke := by decide +kernel
  have hl : lv_has ls 5 [(0, .ref (q 0)), (1, .int (iI s0)), (2, .long (lI s1)), (4, .int (iI wk))] := hl
  refine z_gen (fun Q hQ => ?_)
  refine lv_aload_n hx hb dL_woke_0 rfl (lv_at hl 0 rfl) ?_
  refine zc_pi (va_runV (As := []) (rest := []) ⟨hx, hb, hml, hown, hts⟩ (kX7_state l dC dI cI cJ cZ q pw co la vo cpar fr cdee use run nC tdue tlat twk nT edue elat ewk nE len cnt tin sp pe slp late srv hv av bd sh sc lt rule now st asl idl idn par div dee) (cwV 0 hts gL_woke_X7_state rfl rfl rfl (by decide +kernel) ⟨Nat.le_of_ble_eq_true rfl, Nat.le_of_ble_eq_true rfl⟩) (zqV hK hP [0, 1, 2, 3, 4, 5, 6, 7, 8, 9, 10, 11, 12, 13, 14, 15, 16, 17, 18, 19, 20, 21, 22, 23, 24, 25, 26, 27, 28] rfl 0 rfl rfl) rfl rfl hl.1 rfl (lv_room (Nat.le_of_ble_eq_true rfl)) dL_woke_1 ⟨Nat.le_of_ble_eq_true rfl, Nat.le_of_ble_eq_true rfl⟩) ?_
  refine zi_fne (tgt := 32) hx hb (by omega) dL_woke_4 (by decide) (fun c_1 => ?_) (fun c_1 => ?_)
  · skip
    exact absurd c_1 (by omega)
  · skip
    refine lv_aload_n hx hb dL_woke_7 rfl (lv_at hl 0 rfl) ?_
    refine zc_pl (va_runV (As := []) (rest := []) ⟨hx, hb, hml, hown, hts⟩ (kX7_spent l dC dI cI cJ cZ q pw co la vo cpar fr cdee use run nC tdue tlat twk nT edue elat ewk nE len cnt tin sp pe slp late srv hv av bd sh sc lt rule now st asl idl idn par div dee) (cwV 0 hts gL_woke_X7_spent rfl rfl rfl (by decide +kernel) ⟨Nat.le_of_ble_eq_true rfl, Nat.le_of_ble_eq_true rfl⟩) (zqV hK hP [0, 1, 2, 3, 4, 5, 6, 7, 8, 9, 10, 11, 12, 13, 14, 15, 16, 17, 18, 19, 20, 21, 22, 23, 24, 25, 26, 27, 28] rfl 0 rfl rfl) rfl rfl hl.1 rfl (lv_room (Nat.le_of_ble_eq_true rfl)) dL_woke_8 ⟨Nat.le_of_ble_eq_true rfl, Nat.le_of_ble_eq_true rfl⟩) ?_
    refine lv_lload_n hx hb dL_woke_11 rfl (lv_at hl 2 rfl) ?_
    refine lv_iload_n hx hb dL_woke_12 rfl (lv_at hl 1 rfl) ?_
    refine zi_fne (tgt := 20) hx hb (by omega) dL_woke_13 (by decide) (fun c_2 => ?_) (fun c_2 => ?_)
    · skip
      refine lv_iload hx hb dL_woke_20 (lv_at hl 3 rfl) ?_
      refine zi_l hx hb (by omega) dL_woke_22 ?_
      refine zl_add hx hb dL_woke_23 ?_
      refine zl_sameN (tgt := 32) hx hb (by rw [hsp]; first | rw [if_pos (by assumption)] | rw [if_neg (by assumption)]) dL_woke_24 dL_woke_25 (by decide) ?_
      refine lv_iconst (v := iI 1) hx hb dL_woke_28 rfl ?_
      refine lv_goto (tgt := 33) hx hb dL_woke_29 (by decide) ?_
      subst hQ
      exact zret_pz hx hb hr hlocks dL_woke_33 (by first | decide | omega) (by rfl)
    · skip
      refine lv_iconst (v := iI 0) hx hb dL_woke_16 rfl ?_
      refine lv_goto (tgt := 22) hx hb dL_woke_17 (by decide) ?_
      refine zi_l hx hb (by omega) dL_woke_22 ?_
      refine zl_add hx hb dL_woke_23 ?_
      refine zl_sameN (tgt := 32) hx hb (by rw [hsp]; first | rw [if_pos (by assumption)] | rw [if_neg (by assumption)]) dL_woke_24 dL_woke_25 (by decide) ?_
      refine lv_iconst (v := iI 1) hx hb dL_woke_28 rfl ?_
      refine lv_goto (tgt := 33) hx hb dL_woke_29 (by decide) ?_
      subst hQ
      exact zret_pz hx hb hr hlocks dL_woke_33 (by first | decide | omega) (by rfl)
def rmL_state_ok : Room := { frames := 7, cells := 0, slots := 0, locals := 114 }
set_option maxRecDepth 100000 in
set_option maxHeartbeats 4000000 in
theorem kL_state_ok (l : Launch) (dC : Nat → ClassId) (dI : Nat → Nat → Nat) (cI cJ cZ : ClassId) (q : Nat → Nat)  (pw : Int → Int) (co : Int → Int) (la : Int → Int) (vo : Int → Int) (cpar : Int → Int) (fr : Int → Int) (cdee : Int → Int) (use : Int → Int) (run : Int → Int) (nC : Int) (tdue : Int → Int) (tlat : Int → Int) (twk : Int → Int) (nT : Int) (edue : Int → Int) (elat : Int → Int) (ewk : Int → Int) (nE : Int) (len : Int → Int) (cnt : Int) (tin : Int → Int) (sp : Int) (pe : Int) (slp : Int) (late : Int) (srv : Int) (hv : Int → Int) (av : Int) (bd : Int) (sh : Int) (sc : Int → Int) (lt : Int → Int) (rule : Int) (now : Int) (st : Int) (asl : Int) (idl : Int → Int) (idn : Int) (par : Int → Int) (div : Int → Int) (dee : Int → Int) (x1 x2 x3 x4 : Int) (hx1 : zR x1) (hx2 : zR x2) (hx3 : zR x3) (hx4 : zR x4) (hst : 0 ≤ st ∧ st ≤ 3) (hpw : rgZ pw 4 1000) (hco : rgZ co 4 10000) (hla : rgZ la 4 100) (hnow : 0 ≤ now ∧ now ≤ 200000) (hasl : 0 ≤ asl ∧ asl ≤ now) (hid : idR len cnt idl idn) (hok : (1 ≤ x1 ∧ x1 ≤ 3) ∧ (0 ≤ x2 ∧ x2 ≤ 1000) ∧ (0 ≤ x3 ∧ x3 ≤ 10000) ∧ (0 ≤ x4 ∧ x4 ≤ 100)) : zMi l yL_state wsL_state rmL_state_ok (dC, dI) (zT cI cJ cZ) (wP cI cJ cZ q pw co la vo cpar fr cdee use run nC tdue tlat twk nT edue elat ewk nE len cnt tin sp pe slp late srv hv av bd sh sc lt rule now st asl idl idn par div dee) [.ref (q 0), .int (iI x1), .int (iI x2), .int (iI x3), .int (iI x4)] (fun (r9 : Int) (u9 : Int × Int × Int × (Int → Int) × Int × (Int → Int) × Int) => r9 = 0 ∧ (((u9.1), (u9.2.1), (u9.2.2.1), (u9.2.2.2.1), (u9.2.2.2.2.1)) = scF pw la st asl now sp pe idl idn ∧ idR (u9.2.2.2.2.2.1) (u9.2.2.2.2.2.2) (u9.2.2.2.1) (u9.2.2.2.2.1))) (fun u9 : Int × Int × Int × (Int → Int) × Int × (Int → Int) × Int => wP cI cJ cZ q (uZ pw x1 x2) (uZ co x1 x3) (uZ la x1 x4) vo cpar fr cdee use run nC tdue tlat twk nT edue elat ewk nE (u9.2.2.2.2.2.1) (u9.2.2.2.2.2.2) tin (u9.2.1) (u9.2.2.1) slp late srv hv av bd sh sc lt rule now (u9.1) asl (u9.2.2.2.1) (u9.2.2.2.2.1) par div dee) 0 0 := by
  refine zentu_i (cc := cL_state) (maxL := 6) (ret := (some .int)) (by decide +kernel) rfl (Nat.le_of_ble_eq_true rfl) ?_
  intro p e s m below meth c A ls hE hP hK hA hD hS hl
  obtain ⟨hx, hb, hr, hml, hown, hts, hlocks, hmn⟩ := hE
  have hinX7 : ∀ w ∈ u_ws RX7 TX7 13, w ∈ wsL_state := by decide +kernel
  have hinX6 : ∀ w ∈ u_ws RX6 TX6 3, w ∈ wsL_state := by decide +kernel
  have hinX4 : ∀ w ∈ u_ws RX4 TX4 6, w ∈ wsL_state := by decide +kernel
  have hinX2 : ∀ w ∈ u_ws RX2 TX2 2, w ∈ wsL_state := by decide +kernel
  have hl : lv_has ls 6 [(0, .ref (q 0)), (1, .int (iI x1)), (2, .int (iI x2)), (3, .int (iI x3)), (4, .int (iI x4))] := hl
  refine z_gen (fun Q hQ => ?_)
  refine lv_aload_n hx hb dL_state_0 rfl (lv_at hl 0 rfl) ?_
  refine lv_iload_n hx hb dL_state_1 rfl (lv_at hl 1 rfl) ?_
  refine lv_iload_n hx hb dL_state_2 rfl (lv_at hl 2 rfl) ?_
  refine lv_iload_n hx hb dL_state_3 rfl (lv_at hl 3 rfl) ?_
  refine lv_iload hx hb dL_state_4 (lv_at hl 4 rfl) ?_
  refine zc_v (va_runV (As := [.int (iI x1), .int (iI x2), .int (iI x3), .int (iI x4)]) (rest := []) ⟨hx, hb, hml, hown, hts⟩ (kX7_setState_ok l dC dI cI cJ cZ q pw co la vo cpar fr cdee use run nC tdue tlat twk nT edue elat ewk nE len cnt tin sp pe slp late srv hv av bd sh sc lt rule now st asl idl idn par div dee x1 x2 x3 x4 (by first | assumption | omega | exact b2i_01 _) (by first | assumption | omega | exact b2i_01 _) (by first | assumption | omega | exact b2i_01 _) (by first | assumption | omega | exact b2i_01 _) (by first | assumption | omega | exact b2i_01 _) (by first | assumption | omega | exact b2i_01 _) (by first | assumption | omega | exact b2i_01 _) (by first | assumption | omega | exact b2i_01 _) (by first | assumption | omega | exact b2i_01 _) (by first | assumption | omega | exact b2i_01 _) (by first | assumption | omega | exact b2i_01 _) (by first | assumption | omega | exact b2i_01 _) s.heap.size) (cwV 4 hts gL_state_X7_setState rfl rfl rfl (by decide +kernel) ⟨Nat.le_of_ble_eq_true rfl, Nat.le_of_ble_eq_true rfl⟩) (zpV hK hP hD [0, 1, 2, 3, 4, 5, 6, 7, 8, 9, 10, 11, 12, 13, 14, 15, 16, 17, 18, 19, 20, 21, 22, 23, 24, 25, 26, 27, 28] rfl rfl 0 rfl rfl) rfl rfl hl.1 rfl (lv_room (Nat.le_of_ble_eq_true rfl)) dL_state_6 ⟨Nat.le_of_ble_eq_true rfl, Nat.le_of_ble_eq_true rfl⟩) hP hD hS hA [0, 1, 2, 3, 4, 5, 6, 7, 8, 9, 10, 11, 12, 13, 14, 15, 16, 17, 18, 19, 20, 21, 22, 23, 24, 25, 26, 27, 28] [] rfl rfl rfl (by decide) (fun u_2 H locs r_1 hP hD hS => ?_)
  obtain ⟨stx_4, spx_5, pex_6, idlx_7, idnx_8, lenx_9, cntx_10⟩ := u_2
  have r_1 : (stx_4, spx_5, pex_6, idlx_7, idnx_8) = scF pw la st asl now sp pe idl idn ∧ idR lenx_9 cntx_10 idlx_7 idnx_8 := r_1
  have hP : va_P (dC, dI) vwCl (wP cI cJ cZ q (uZ pw x1 x2) (uZ co x1 x3) (uZ la x1 x4) vo cpar fr cdee use run nC tdue tlat twk nT edue elat ewk nE lenx_9 cntx_10 tin spx_5 pex_6 slp late srv hv av bd sh sc lt rule now stx_4 asl idlx_7 idnx_8 par div dee) H := hP
  have hD : va_D A (wP cI cJ cZ q (uZ pw x1 x2) (uZ co x1 x3) (uZ la x1 x4) vo cpar fr cdee use run nC tdue tlat twk nT edue elat ewk nE lenx_9 cntx_10 tin spx_5 pex_6 slp late srv hv av bd sh sc lt rule now stx_4 asl idlx_7 idnx_8 par div dee) := hD
  have hq9 := r_1
  refine lv_iconst (v := iI 0) hx hb dL_state_9 rfl ?_
  subst hQ
  exact zret_i (W1 := fun u9 : Int × Int × Int × (Int → Int) × Int × (Int → Int) × Int => wP cI cJ cZ q (uZ pw x1 x2) (uZ co x1 x3) (uZ la x1 x4) vo cpar fr cdee use run nC tdue tlat twk nT edue elat ewk nE (u9.2.2.2.2.2.1) (u9.2.2.2.2.2.2) tin (u9.2.1) (u9.2.2.1) slp late srv hv av bd sh sc lt rule now (u9.1) asl (u9.2.2.2.1) (u9.2.2.2.2.1) par div dee) (stx_4, spx_5, pex_6, idlx_7, idnx_8, lenx_9, cntx_10) hx hb hr hP hD hS hlocks dL_state_10 (by exact ⟨rfl, hq9⟩)
def rmL_state_bad : Room := { frames := 7, cells := 1, slots := 6, locals := 114 }
set_option maxRecDepth 100000 in
set_option maxHeartbeats 4000000 in
theorem kL_state_bad (l : Launch) (dC : Nat → ClassId) (dI : Nat → Nat → Nat) (cI cJ cZ : ClassId) (q : Nat → Nat)  (pw : Int → Int) (co : Int → Int) (la : Int → Int) (vo : Int → Int) (cpar : Int → Int) (fr : Int → Int) (cdee : Int → Int) (use : Int → Int) (run : Int → Int) (nC : Int) (tdue : Int → Int) (tlat : Int → Int) (twk : Int → Int) (nT : Int) (edue : Int → Int) (elat : Int → Int) (ewk : Int → Int) (nE : Int) (len : Int → Int) (cnt : Int) (tin : Int → Int) (sp : Int) (pe : Int) (slp : Int) (late : Int) (srv : Int) (hv : Int → Int) (av : Int) (bd : Int) (sh : Int) (sc : Int → Int) (lt : Int → Int) (rule : Int) (now : Int) (st : Int) (asl : Int) (idl : Int → Int) (idn : Int) (par : Int → Int) (div : Int → Int) (dee : Int → Int) (x1 x2 x3 x4 : Int) (hx1 : zR x1) (hx2 : zR x2) (hx3 : zR x3) (hx4 : zR x4) (hst : 0 ≤ st ∧ st ≤ 3) (hpw : rgZ pw 4 1000) (hco : rgZ co 4 10000) (hla : rgZ la 4 100) (hnow : 0 ≤ now ∧ now ≤ 200000) (hasl : 0 ≤ asl ∧ asl ≤ now) (hid : idR len cnt idl idn) (hbad : ¬ ((1 ≤ x1 ∧ x1 ≤ 3) ∧ (0 ≤ x2 ∧ x2 ≤ 1000) ∧ (0 ≤ x3 ∧ x3 ≤ 10000) ∧ (0 ≤ x4 ∧ x4 ≤ 100))) : zMyi l yL_state wsL_state rmL_state_bad (dC, dI) (zT cI cJ cZ) (wP cI cJ cZ q pw co la vo cpar fr cdee use run nC tdue tlat twk nT edue elat ewk nE len cnt tin sp pe slp late srv hv av bd sh sc lt rule now st asl idl idn par div dee) [.ref (q 0), .int (iI x1), .int (iI x2), .int (iI x3), .int (iI x4)] (fun (r9 : Int) (_ : Unit) => r9 = (-82)) (fun _ : Unit => wP cI cJ cZ q pw co la vo cpar fr cdee use run nC tdue tlat twk nT edue elat ewk nE len cnt tin sp pe slp late srv hv av bd sh sc lt rule now st asl idl idn par div dee) := by
  refine zenty_i (cc := cL_state) (maxL := 6) (ret := (some .int)) (by decide +kernel) rfl (Nat.le_of_ble_eq_true rfl) ?_
  intro p e s m below meth c A ls htr htab hY hX hE hP hK hA hD hS hl
  obtain ⟨hx, hb, hr, hml, hown, hts, hlocks, hmn⟩ := hE
  have hinX7 : ∀ w ∈ u_ws RX7 TX7 13, w ∈ wsL_state := by decide +kernel
  have hinX6 : ∀ w ∈ u_ws RX6 TX6 3, w ∈ wsL_state := by decide +kernel
  have hinX4 : ∀ w ∈ u_ws RX4 TX4 6, w ∈ wsL_state := by decide +kernel
  have hinX2 : ∀ w ∈ u_ws RX2 TX2 2, w ∈ wsL_state := by decide +kernel
  have hl : lv_has ls 6 [(0, .ref (q 0)), (1, .int (iI x1)), (2, .int (iI x2)), (3, .int (iI x3)), (4, .int (iI x4))] := hl
  refine z_gen (fun Q hQ => ?_)
  refine lv_aload_n hx hb dL_state_0 rfl (lv_at hl 0 rfl) ?_
  refine lv_iload_n hx hb dL_state_1 rfl (lv_at hl 1 rfl) ?_
  refine lv_iload_n hx hb dL_state_2 rfl (lv_at hl 2 rfl) ?_
  refine lv_iload_n hx hb dL_state_3 rfl (lv_at hl 3 rfl) ?_
  refine lv_iload hx hb dL_state_4 (lv_at hl 4 rfl) ?_
  refine zxc_v (vx_runV (As := [.int (iI x1), .int (iI x2), .int (iI x3), .int (iI x4)]) (rest := []) ⟨hx, hb, hml, hown, hts⟩ (kX7_setState l dC dI cI cJ cZ q pw co la vo cpar fr cdee use run nC tdue tlat twk nT edue elat ewk nE len cnt tin sp pe slp late srv hv av bd sh sc lt rule now st asl idl idn par div dee x1 x2 x3 x4 (by first | assumption | omega | exact b2i_01 _) (by first | assumption | omega | exact b2i_01 _) (by first | assumption | omega | exact b2i_01 _) (by first | assumption | omega | exact b2i_01 _) (by first | assumption | omega | exact b2i_01 _) (by first | assumption | omega | exact b2i_01 _) (by first | assumption | omega | exact b2i_01 _) (by first | assumption | omega | exact b2i_01 _) (by first | assumption | omega | exact b2i_01 _) (by first | assumption | omega | exact b2i_01 _) (by first | assumption | omega | exact b2i_01 _) htr s.heap.size) (cwV 4 hts gL_state_X7_setState rfl rfl rfl (by decide +kernel) ⟨Nat.le_of_ble_eq_true rfl, Nat.le_of_ble_eq_true rfl⟩) (zxV hX hS hA hK hP hD [0, 1, 2, 3, 4, 5, 6, 7, 8, 9, 10, 11, 12, 13, 14, 15, 16, 17, 18, 19, 20, 21, 22, 23, 24, 25, 26, 27, 28] rfl rfl 0 rfl rfl) rfl rfl hl.1 rfl (lv_room (Nat.le_of_ble_eq_true rfl)) dL_state_6 ⟨Nat.le_of_ble_eq_true rfl, Nat.le_of_ble_eq_true rfl⟩) hP hD hS hA [0, 1, 2, 3, 4, 5, 6, 7, 8, 9, 10, 11, 12, 13, 14, 15, 16, 17, 18, 19, 20, 21, 22, 23, 24, 25, 26, 27, 28] [] rfl rfl rfl (by decide) (fun E_14 ce_12 q_13 H locs x_11 hP hD hS h71 h72 h73 => ?_) (fun u_2 H locs r_1 hP hD hS => ?_)
  · skip
    have hP : va_P (dC, dI) vwCl (wP cI cJ cZ q pw co la vo cpar fr cdee use run nC tdue tlat twk nT edue elat ewk nE len cnt tin sp pe slp late srv hv av bd sh sc lt rule now st asl idl idn par div dee) H := hP
    have hD : va_D A (wP cI cJ cZ q pw co la vo cpar fr cdee use run nC tdue tlat twk nT edue elat ewk nE len cnt tin sp pe slp late srv hv av bd sh sc lt rule now st asl idl idn par div dee) := hD
    rcases x_11 with ⟨rfl, hc9⟩
    · skip
      refine vx_catch (own := RL) (name := xA) hown [] ⟨0, 10, 11, 45⟩ [] (by rw [htab]; rfl) (fun z hz => absurd hz List.not_mem_nil) (by decide) (by decide) (hts _ (List.mem_of_getElem? (i := 1) rfl)) (va_Nw.use rfl (hX.1.1 xA (List.mem_of_getElem? (i := 0) rfl))) h71 h72 h73 ?_
      refine lv_astore (lv' := [(5, .ref q_13), (0, .ref (q 0)), (1, .int (iI x1)), (2, .int (iI x2)), (3, .int (iI x3)), (4, .int (iI x4))]) hx hb dL_state_11 hl (by decide) rfl (fun ls hl => ?_)
      refine lv_bipush (v := iI (-82)) hx hb dL_state_13 (by decide) ?_
      subst hQ
      refine W.widen (k := 1) (n := 6) (by decide) (by decide) ?_
      exact zret_i (W1 := fun _ : Unit => wP cI cJ cZ q pw co la vo cpar fr cdee use run nC tdue tlat twk nT edue elat ewk nE len cnt tin sp pe slp late srv hv av bd sh sc lt rule now st asl idl idn par div dee) () hx hb hr hP hD hS hlocks dL_state_15 (by exact rfl)
  obtain ⟨stx_4, spx_5, pex_6, idlx_7, idnx_8, lenx_9, cntx_10⟩ := u_2
  have r_1 : ((1 ≤ x1 ∧ x1 ≤ 3) ∧ (0 ≤ x2 ∧ x2 ≤ 1000) ∧ (0 ≤ x3 ∧ x3 ≤ 10000) ∧ (0 ≤ x4 ∧ x4 ≤ 100)) ∧ (stx_4, spx_5, pex_6, idlx_7, idnx_8) = scF pw la st asl now sp pe idl idn ∧ idR lenx_9 cntx_10 idlx_7 idnx_8 := r_1
  exact absurd (r_1).1 hbad
def rmL_sets_ok0 : Room := { frames := 7, cells := 0, slots := 0, locals := 152 }
set_option maxRecDepth 100000 in
set_option maxHeartbeats 4000000 in
theorem kL_sets_ok0 (l : Launch) (dC : Nat → ClassId) (dI : Nat → Nat → Nat) (cI cJ cZ : ClassId) (q : Nat → Nat)  (pw : Int → Int) (co : Int → Int) (la : Int → Int) (vo : Int → Int) (cpar : Int → Int) (fr : Int → Int) (cdee : Int → Int) (use : Int → Int) (run : Int → Int) (nC : Int) (tdue : Int → Int) (tlat : Int → Int) (twk : Int → Int) (nT : Int) (edue : Int → Int) (elat : Int → Int) (ewk : Int → Int) (nE : Int) (len : Int → Int) (cnt : Int) (tin : Int → Int) (sp : Int) (pe : Int) (slp : Int) (late : Int) (srv : Int) (hv : Int → Int) (av : Int) (bd : Int) (sh : Int) (sc : Int → Int) (lt : Int → Int) (rule : Int) (now : Int) (st : Int) (asl : Int) (idl : Int → Int) (idn : Int) (par : Int → Int) (div : Int → Int) (dee : Int → Int) (x1 : Int) (hx1 : zR x1) (hst : 0 ≤ st ∧ st ≤ 3) (hpw : rgZ pw 4 1000) (hco : rgZ co 4 10000) (hla : rgZ la 4 100) (hnow : 0 ≤ now ∧ now ≤ 200000) (hasl : 0 ≤ asl ∧ asl ≤ now) (hid : idR len cnt idl idn) (hc0 : co 0 = 0) (hl0 : la 0 = 0) (hok : 0 ≤ x1 ∧ x1 ≤ 1000) : zMi l yL_sets wsL_sets rmL_sets_ok0 (dC, dI) (zT cI cJ cZ) (wP cI cJ cZ q pw co la vo cpar fr cdee use run nC tdue tlat twk nT edue elat ewk nE len cnt tin sp pe slp late srv hv av bd sh sc lt rule now st asl idl idn par div dee) [.ref (q 0), .int (iI 0), .int (iI x1), .int (iI 0), .int (iI 0)] (fun (r9 : Int) (u9 : Int × Int × Int × (Int → Int) × Int × (Int → Int) × Int) => r9 = pw 0 ∧ (((u9.1), (u9.2.1), (u9.2.2.1), (u9.2.2.2.1), (u9.2.2.2.2.1)) = scF pw la st asl now sp pe idl idn ∧ idR (u9.2.2.2.2.2.1) (u9.2.2.2.2.2.2) (u9.2.2.2.1) (u9.2.2.2.2.1))) (fun u9 : Int × Int × Int × (Int → Int) × Int × (Int → Int) × Int => wP cI cJ cZ q (uZ pw 0 x1) co la vo cpar fr cdee use run nC tdue tlat twk nT edue elat ewk nE (u9.2.2.2.2.2.1) (u9.2.2.2.2.2.2) tin (u9.2.1) (u9.2.2.1) slp late srv hv av bd sh sc lt rule now (u9.1) asl (u9.2.2.2.1) (u9.2.2.2.2.1) par div dee) 0 0 := by
  refine zentu_i (cc := cL_sets) (maxL := 6) (ret := (some .int)) (by decide +kernel) rfl (Nat.le_of_ble_eq_true rfl) ?_
  intro p e s m below meth c A ls hE hP hK hA hD hS hl
  obtain ⟨hx, hb, hr, hml, hown, hts, hlocks, hmn⟩ := hE
  have hinX7 : ∀ w ∈ u_ws RX7 TX7 13, w ∈ wsL_sets := by decide +kernel
  have hinX6 : ∀ w ∈ u_ws RX6 TX6 3, w ∈ wsL_sets := by decide +kernel
  have hinX4 : ∀ w ∈ u_ws RX4 TX4 6, w ∈ wsL_sets := by decide +kernel
  have hinX2 : ∀ w ∈ u_ws RX2 TX2 2, w ∈ wsL_sets := by decide +kernel
  have hinX1 : ∀ w ∈ u_ws RX1 TX1 6, w ∈ wsL_sets := by decide +kernel
  have hinX3 : ∀ w ∈ u_ws RX3 TX3 4, w ∈ wsL_sets := by decide +kernel
  have hinX0 : ∀ w ∈ u_ws RX0 TX0 4, w ∈ wsL_sets := by decide +kernel
  have hl : lv_has ls 6 [(0, .ref (q 0)), (1, .int (iI 0)), (2, .int (iI x1)), (3, .int (iI 0)), (4, .int (iI 0))] := hl
  refine z_gen (fun Q hQ => ?_)
  refine lv_iload_n hx hb dL_sets_0 rfl (lv_at hl 1 rfl) ?_
  refine zi_fne (tgt := 12) hx hb (by decide) dL_sets_1 (by decide) (fun c_1 => ?_) (fun c_1 => ?_)
  · skip
    exact absurd c_1 (by decide)
  · skip
    refine lv_aload_n hx hb dL_sets_4 rfl (lv_at hl 0 rfl) ?_
    refine lv_iload_n hx hb dL_sets_5 rfl (lv_at hl 2 rfl) ?_
    refine zc_i (va_runV (As := [.int (iI x1)]) (rest := []) ⟨hx, hb, hml, hown, hts⟩ (kX7_setAwake_ok l dC dI cI cJ cZ q pw co la vo cpar fr cdee use run nC tdue tlat twk nT edue elat ewk nE len cnt tin sp pe slp late srv hv av bd sh sc lt rule now st asl idl idn par div dee x1 (by first | assumption | omega | exact b2i_01 _) (by first | assumption | omega | exact b2i_01 _) (by first | assumption | omega | exact b2i_01 _) (by first | assumption | omega | exact b2i_01 _) (by first | assumption | omega | exact b2i_01 _) (by first | assumption | omega | exact b2i_01 _) (by first | assumption | omega | exact b2i_01 _) (by first | assumption | omega | exact b2i_01 _) (by first | assumption | omega | exact b2i_01 _) (by first | assumption | omega | exact b2i_01 _) (by first | assumption | omega | exact b2i_01 _) s.heap.size) (cwV 1 hts gL_sets_X7_setAwake rfl rfl rfl (by decide +kernel) ⟨Nat.le_of_ble_eq_true rfl, Nat.le_of_ble_eq_true rfl⟩) (zpV hK hP hD [0, 1, 2, 3, 4, 5, 6, 7, 8, 9, 10, 11, 12, 13, 14, 15, 16, 17, 18, 19, 20, 21, 22, 23, 24, 25, 26, 27, 28] rfl rfl 0 rfl rfl) rfl rfl hl.1 rfl (lv_room (Nat.le_of_ble_eq_true rfl)) dL_sets_6 ⟨Nat.le_of_ble_eq_true rfl, Nat.le_of_ble_eq_true rfl⟩) hP hD hS hA [0, 1, 2, 3, 4, 5, 6, 7, 8, 9, 10, 11, 12, 13, 14, 15, 16, 17, 18, 19, 20, 21, 22, 23, 24, 25, 26, 27, 28] [] rfl rfl rfl (by decide) (fun v_4 u_3 H locs r_2 hP hD hS => ?_)
    obtain ⟨stx_5, spx_6, pex_7, idlx_8, idnx_9, lenx_10, cntx_11⟩ := u_3
    obtain ⟨v_12, r_2⟩ := r_2
    refine ze_i v_12 ?_
    have r_2 : (stx_5, spx_6, pex_7, idlx_8, idnx_9) = scF pw la st asl now sp pe idl idn ∧ idR lenx_10 cntx_11 idlx_8 idnx_9 := r_2
    have hP : va_P (dC, dI) vwCl (wP cI cJ cZ q (uZ pw 0 x1) co la vo cpar fr cdee use run nC tdue tlat twk nT edue elat ewk nE lenx_10 cntx_11 tin spx_6 pex_7 slp late srv hv av bd sh sc lt rule now stx_5 asl idlx_8 idnx_9 par div dee) H := hP
    have hD : va_D A (wP cI cJ cZ q (uZ pw 0 x1) co la vo cpar fr cdee use run nC tdue tlat twk nT edue elat ewk nE lenx_10 cntx_11 tin spx_6 pex_7 slp late srv hv av bd sh sc lt rule now stx_5 asl idlx_8 idnx_9 par div dee) := hD
    have hq9 := r_2
    refine lv_goto (tgt := 133) hx hb dL_sets_9 (by decide) ?_
    subst hQ
    exact zret_i (W1 := fun u9 : Int × Int × Int × (Int → Int) × Int × (Int → Int) × Int => wP cI cJ cZ q (uZ pw 0 x1) co la vo cpar fr cdee use run nC tdue tlat twk nT edue elat ewk nE (u9.2.2.2.2.2.1) (u9.2.2.2.2.2.2) tin (u9.2.1) (u9.2.2.1) slp late srv hv av bd sh sc lt rule now (u9.1) asl (u9.2.2.2.1) (u9.2.2.2.2.1) par div dee) (stx_5, spx_6, pex_7, idlx_8, idnx_9, lenx_10, cntx_11) hx hb hr hP hD hS hlocks dL_sets_133 (by exact ⟨rfl, hq9⟩)
def rmL_sets_bad0 : Room := { frames := 7, cells := 1, slots := 6, locals := 152 }
set_option maxRecDepth 100000 in
set_option maxHeartbeats 4000000 in
theorem kL_sets_bad0 (l : Launch) (dC : Nat → ClassId) (dI : Nat → Nat → Nat) (cI cJ cZ : ClassId) (q : Nat → Nat)  (pw : Int → Int) (co : Int → Int) (la : Int → Int) (vo : Int → Int) (cpar : Int → Int) (fr : Int → Int) (cdee : Int → Int) (use : Int → Int) (run : Int → Int) (nC : Int) (tdue : Int → Int) (tlat : Int → Int) (twk : Int → Int) (nT : Int) (edue : Int → Int) (elat : Int → Int) (ewk : Int → Int) (nE : Int) (len : Int → Int) (cnt : Int) (tin : Int → Int) (sp : Int) (pe : Int) (slp : Int) (late : Int) (srv : Int) (hv : Int → Int) (av : Int) (bd : Int) (sh : Int) (sc : Int → Int) (lt : Int → Int) (rule : Int) (now : Int) (st : Int) (asl : Int) (idl : Int → Int) (idn : Int) (par : Int → Int) (div : Int → Int) (dee : Int → Int) (x1 : Int) (hx1 : zR x1) (hst : 0 ≤ st ∧ st ≤ 3) (hpw : rgZ pw 4 1000) (hco : rgZ co 4 10000) (hla : rgZ la 4 100) (hnow : 0 ≤ now ∧ now ≤ 200000) (hasl : 0 ≤ asl ∧ asl ≤ now) (hid : idR len cnt idl idn) (hc0 : co 0 = 0) (hl0 : la 0 = 0) (hbad : ¬ (0 ≤ x1 ∧ x1 ≤ 1000)) : zMyi l yL_sets wsL_sets rmL_sets_bad0 (dC, dI) (zT cI cJ cZ) (wP cI cJ cZ q pw co la vo cpar fr cdee use run nC tdue tlat twk nT edue elat ewk nE len cnt tin sp pe slp late srv hv av bd sh sc lt rule now st asl idl idn par div dee) [.ref (q 0), .int (iI 0), .int (iI x1), .int (iI 0), .int (iI 0)] (fun (r9 : Int) (_ : Unit) => r9 = (-82)) (fun _ : Unit => wP cI cJ cZ q pw co la vo cpar fr cdee use run nC tdue tlat twk nT edue elat ewk nE len cnt tin sp pe slp late srv hv av bd sh sc lt rule now st asl idl idn par div dee) := by
  refine zenty_i (cc := cL_sets) (maxL := 6) (ret := (some .int)) (by decide +kernel) rfl (Nat.le_of_ble_eq_true rfl) ?_
  intro p e s m below meth c A ls htr htab hY hX hE hP hK hA hD hS hl
  obtain ⟨hx, hb, hr, hml, hown, hts, hlocks, hmn⟩ := hE
  have hinX7 : ∀ w ∈ u_ws RX7 TX7 13, w ∈ wsL_sets := by decide +kernel
  have hinX6 : ∀ w ∈ u_ws RX6 TX6 3, w ∈ wsL_sets := by decide +kernel
  have hinX4 : ∀ w ∈ u_ws RX4 TX4 6, w ∈ wsL_sets := by decide +kernel
  have hinX2 : ∀ w ∈ u_ws RX2 TX2 2, w ∈ wsL_sets := by decide +kernel
  have hinX1 : ∀ w ∈ u_ws RX1 TX1 6, w ∈ wsL_sets := by decide +kernel
  have hinX3 : ∀ w ∈ u_ws RX3 TX3 4, w ∈ wsL_sets := by decide +kernel
  have hinX0 : ∀ w ∈ u_ws RX0 TX0 4, w ∈ wsL_sets := by decide +kernel
  have hl : lv_has ls 6 [(0, .ref (q 0)), (1, .int (iI 0)), (2, .int (iI x1)), (3, .int (iI 0)), (4, .int (iI 0))] := hl
  refine z_gen (fun Q hQ => ?_)
  refine lv_iload_n hx hb dL_sets_0 rfl (lv_at hl 1 rfl) ?_
  refine zi_fne (tgt := 12) hx hb (by decide) dL_sets_1 (by decide) (fun c_1 => ?_) (fun c_1 => ?_)
  · skip
    exact absurd c_1 (by decide)
  · skip
    refine lv_aload_n hx hb dL_sets_4 rfl (lv_at hl 0 rfl) ?_
    refine lv_iload_n hx hb dL_sets_5 rfl (lv_at hl 2 rfl) ?_
    refine zxc_i (vx_runV (As := [.int (iI x1)]) (rest := []) ⟨hx, hb, hml, hown, hts⟩ (kX7_setAwake l dC dI cI cJ cZ q pw co la vo cpar fr cdee use run nC tdue tlat twk nT edue elat ewk nE len cnt tin sp pe slp late srv hv av bd sh sc lt rule now st asl idl idn par div dee x1 (by first | assumption | omega | exact b2i_01 _) (by first | assumption | omega | exact b2i_01 _) (by first | assumption | omega | exact b2i_01 _) (by first | assumption | omega | exact b2i_01 _) (by first | assumption | omega | exact b2i_01 _) (by first | assumption | omega | exact b2i_01 _) (by first | assumption | omega | exact b2i_01 _) (by first | assumption | omega | exact b2i_01 _) (by first | assumption | omega | exact b2i_01 _) (by first | assumption | omega | exact b2i_01 _) htr s.heap.size) (cwV 1 hts gL_sets_X7_setAwake rfl rfl rfl (by decide +kernel) ⟨Nat.le_of_ble_eq_true rfl, Nat.le_of_ble_eq_true rfl⟩) (zxV hX hS hA hK hP hD [0, 1, 2, 3, 4, 5, 6, 7, 8, 9, 10, 11, 12, 13, 14, 15, 16, 17, 18, 19, 20, 21, 22, 23, 24, 25, 26, 27, 28] rfl rfl 0 rfl rfl) rfl rfl hl.1 rfl (lv_room (Nat.le_of_ble_eq_true rfl)) dL_sets_6 ⟨Nat.le_of_ble_eq_true rfl, Nat.le_of_ble_eq_true rfl⟩) hP hD hS hA [0, 1, 2, 3, 4, 5, 6, 7, 8, 9, 10, 11, 12, 13, 14, 15, 16, 17, 18, 19, 20, 21, 22, 23, 24, 25, 26, 27, 28] [] rfl rfl rfl (by decide) (fun E_15 ce_13 q_14 H locs x_12 hP hD hS h71 h72 h73 => ?_) (fun v_4 u_3 H locs r_2 hP hD hS => ?_)
    · skip
      have hP : va_P (dC, dI) vwCl (wP cI cJ cZ q pw co la vo cpar fr cdee use run nC tdue tlat twk nT edue elat ewk nE len cnt tin sp pe slp late srv hv av bd sh sc lt rule now st asl idl idn par div dee) H := hP
      have hD : va_D A (wP cI cJ cZ q pw co la vo cpar fr cdee use run nC tdue tlat twk nT edue elat ewk nE len cnt tin sp pe slp late srv hv av bd sh sc lt rule now st asl idl idn par div dee) := hD
      rcases x_12 with ⟨rfl, hc9⟩
      · skip
        refine vx_catch (own := RL) (name := xA) hown [⟨0, 133, 134, 43⟩] ⟨0, 133, 139, 45⟩ [⟨0, 133, 144, 47⟩] (by rw [htab]; rfl) (fun z hz => by (simp only [List.mem_cons, List.not_mem_nil, or_false] at hz); rcases hz with rfl; exact Or.inr ⟨by decide, xI, (hts _ (List.mem_of_getElem? (i := 1) rfl)), hY.1⟩) (by decide) (by decide) (hts _ (List.mem_of_getElem? (i := 2) rfl)) (va_Nw.use rfl (hX.1.1 xA (List.mem_of_getElem? (i := 0) rfl))) h71 h72 h73 ?_
        refine lv_astore (lv' := [(5, .ref q_14), (0, .ref (q 0)), (1, .int (iI 0)), (2, .int (iI x1)), (3, .int (iI 0)), (4, .int (iI 0))]) hx hb dL_sets_139 hl (by decide) rfl (fun ls hl => ?_)
        refine lv_bipush (v := iI (-82)) hx hb dL_sets_141 (by decide) ?_
        subst hQ
        refine W.widen (k := 1) (n := 6) (by decide) (by decide) ?_
        exact zret_i (W1 := fun _ : Unit => wP cI cJ cZ q pw co la vo cpar fr cdee use run nC tdue tlat twk nT edue elat ewk nE len cnt tin sp pe slp late srv hv av bd sh sc lt rule now st asl idl idn par div dee) () hx hb hr hP hD hS hlocks dL_sets_143 (by exact rfl)
    obtain ⟨stx_5, spx_6, pex_7, idlx_8, idnx_9, lenx_10, cntx_11⟩ := u_3
    obtain ⟨v_16, r_2⟩ := r_2
    refine ze_i v_16 ?_
    have r_2 : (0 ≤ x1 ∧ x1 ≤ 1000) ∧ (stx_5, spx_6, pex_7, idlx_8, idnx_9) = scF pw la st asl now sp pe idl idn ∧ idR lenx_10 cntx_11 idlx_8 idnx_9 := r_2
    exact absurd (r_2).1 hbad
def rmL_sets_ok1 : Room := { frames := 7, cells := 0, slots := 0, locals := 152 }
set_option maxRecDepth 100000 in
set_option maxHeartbeats 4000000 in
theorem kL_sets_ok1 (l : Launch) (dC : Nat → ClassId) (dI : Nat → Nat → Nat) (cI cJ cZ : ClassId) (q : Nat → Nat)  (pw : Int → Int) (co : Int → Int) (la : Int → Int) (vo : Int → Int) (cpar : Int → Int) (fr : Int → Int) (cdee : Int → Int) (use : Int → Int) (run : Int → Int) (nC : Int) (tdue : Int → Int) (tlat : Int → Int) (twk : Int → Int) (nT : Int) (edue : Int → Int) (elat : Int → Int) (ewk : Int → Int) (nE : Int) (len : Int → Int) (cnt : Int) (tin : Int → Int) (sp : Int) (pe : Int) (slp : Int) (late : Int) (srv : Int) (hv : Int → Int) (av : Int) (bd : Int) (sh : Int) (sc : Int → Int) (lt : Int → Int) (rule : Int) (now : Int) (st : Int) (asl : Int) (idl : Int → Int) (idn : Int) (par : Int → Int) (div : Int → Int) (dee : Int → Int) (x1 x2 : Int) (hx1 : zR x1) (hx2 : zR x2) (hst : 0 ≤ st ∧ st ≤ 3) (hpw : rgZ pw 4 1000) (hco : rgZ co 4 10000) (hla : rgZ la 4 100) (hnow : 0 ≤ now ∧ now ≤ 200000) (hasl : 0 ≤ asl ∧ asl ≤ now) (hid : idR len cnt idl idn) (hok : (0 ≤ x1 ∧ x1 ≤ 5) ∧ (0 ≤ x2 ∧ x2 ≤ 3)) : zMi l yL_sets wsL_sets rmL_sets_ok1 (dC, dI) (zT cI cJ cZ) (wP cI cJ cZ q pw co la vo cpar fr cdee use run nC tdue tlat twk nT edue elat ewk nE len cnt tin sp pe slp late srv hv av bd sh sc lt rule now st asl idl idn par div dee) [.ref (q 0), .int (iI 1), .int (iI x1), .int (iI x2), .int (iI 0)] (fun (r9 : Int) (u9 : Int × Int × Int × (Int → Int) × Int × (Int → Int) × Int) => r9 = vo x1 ∧ (((u9.1), (u9.2.1), (u9.2.2.1), (u9.2.2.2.1), (u9.2.2.2.2.1)) = scF pw la st asl now sp pe idl idn ∧ idR (u9.2.2.2.2.2.1) (u9.2.2.2.2.2.2) (u9.2.2.2.1) (u9.2.2.2.2.1))) (fun u9 : Int × Int × Int × (Int → Int) × Int × (Int → Int) × Int => wP cI cJ cZ q pw co la (uZ vo x1 x2) cpar fr cdee use run nC tdue tlat twk nT edue elat ewk nE (u9.2.2.2.2.2.1) (u9.2.2.2.2.2.2) tin (u9.2.1) (u9.2.2.1) slp late srv hv av bd sh sc lt rule now (u9.1) asl (u9.2.2.2.1) (u9.2.2.2.2.1) par div dee) 0 0 := by
  refine zentu_i (cc := cL_sets) (maxL := 6) (ret := (some .int)) (by decide +kernel) rfl (Nat.le_of_ble_eq_true rfl) ?_
  intro p e s m below meth c A ls hE hP hK hA hD hS hl
  obtain ⟨hx, hb, hr, hml, hown, hts, hlocks, hmn⟩ := hE
  have hinX7 : ∀ w ∈ u_ws RX7 TX7 13, w ∈ wsL_sets := by decide +kernel
  have hinX6 : ∀ w ∈ u_ws RX6 TX6 3, w ∈ wsL_sets := by decide +kernel
  have hinX4 : ∀ w ∈ u_ws RX4 TX4 6, w ∈ wsL_sets := by decide +kernel
  have hinX2 : ∀ w ∈ u_ws RX2 TX2 2, w ∈ wsL_sets := by decide +kernel
  have hinX1 : ∀ w ∈ u_ws RX1 TX1 6, w ∈ wsL_sets := by decide +kernel
  have hinX3 : ∀ w ∈ u_ws RX3 TX3 4, w ∈ wsL_sets := by decide +kernel
  have hinX0 : ∀ w ∈ u_ws RX0 TX0 4, w ∈ wsL_sets := by decide +kernel
  have hl : lv_has ls 6 [(0, .ref (q 0)), (1, .int (iI 1)), (2, .int (iI x1)), (3, .int (iI x2)), (4, .int (iI 0))] := hl
  refine z_gen (fun Q hQ => ?_)
  refine lv_iload_n hx hb dL_sets_0 rfl (lv_at hl 1 rfl) ?_
  refine zi_fne (tgt := 12) hx hb (by decide) dL_sets_1 (by decide) (fun c_1 => ?_) (fun c_1 => ?_)
  · skip
    refine lv_iload_n hx hb dL_sets_12 rfl (lv_at hl 1 rfl) ?_
    refine lv_iconst (v := iI 1) hx hb dL_sets_13 rfl ?_
    refine zi_cne (tgt := 26) hx hb (by decide) (by decide) dL_sets_14 (by decide) (fun c_2 => ?_) (fun c_2 => ?_)
    · skip
      exact absurd c_2 (by decide)
    · skip
      refine lv_aload_n hx hb dL_sets_17 rfl (lv_at hl 0 rfl) ?_
      refine lv_iload_n hx hb dL_sets_18 rfl (lv_at hl 2 rfl) ?_
      refine lv_iload_n hx hb dL_sets_19 rfl (lv_at hl 3 rfl) ?_
      refine zc_i (va_runV (As := [.int (iI x1), .int (iI x2)]) (rest := []) ⟨hx, hb, hml, hown, hts⟩ (kX7_vote_ok l dC dI cI cJ cZ q pw co la vo cpar fr cdee use run nC tdue tlat twk nT edue elat ewk nE len cnt tin sp pe slp late srv hv av bd sh sc lt rule now st asl idl idn par div dee x1 x2 (by first | assumption | omega | exact b2i_01 _) (by first | assumption | omega | exact b2i_01 _) (by first | assumption | omega | exact b2i_01 _) (by first | assumption | omega | exact b2i_01 _) (by first | assumption | omega | exact b2i_01 _) (by first | assumption | omega | exact b2i_01 _) (by first | assumption | omega | exact b2i_01 _) (by first | assumption | omega | exact b2i_01 _) (by first | assumption | omega | exact b2i_01 _) (by first | assumption | omega | exact b2i_01 _) s.heap.size) (cwV 2 hts gL_sets_X7_vote rfl rfl rfl (by decide +kernel) ⟨Nat.le_of_ble_eq_true rfl, Nat.le_of_ble_eq_true rfl⟩) (zpV hK hP hD [0, 1, 2, 3, 4, 5, 6, 7, 8, 9, 10, 11, 12, 13, 14, 15, 16, 17, 18, 19, 20, 21, 22, 23, 24, 25, 26, 27, 28] rfl rfl 0 rfl rfl) rfl rfl hl.1 rfl (lv_room (Nat.le_of_ble_eq_true rfl)) dL_sets_20 ⟨Nat.le_of_ble_eq_true rfl, Nat.le_of_ble_eq_true rfl⟩) hP hD hS hA [0, 1, 2, 3, 4, 5, 6, 7, 8, 9, 10, 11, 12, 13, 14, 15, 16, 17, 18, 19, 20, 21, 22, 23, 24, 25, 26, 27, 28] [] rfl rfl rfl (by decide) (fun v_5 u_4 H locs r_3 hP hD hS => ?_)
      obtain ⟨stx_6, spx_7, pex_8, idlx_9, idnx_10, lenx_11, cntx_12⟩ := u_4
      obtain ⟨v_13, r_3⟩ := r_3
      refine ze_i v_13 ?_
      have r_3 : (stx_6, spx_7, pex_8, idlx_9, idnx_10) = scF pw la st asl now sp pe idl idn ∧ idR lenx_11 cntx_12 idlx_9 idnx_10 := r_3
      have hP : va_P (dC, dI) vwCl (wP cI cJ cZ q pw co la (uZ vo x1 x2) cpar fr cdee use run nC tdue tlat twk nT edue elat ewk nE lenx_11 cntx_12 tin spx_7 pex_8 slp late srv hv av bd sh sc lt rule now stx_6 asl idlx_9 idnx_10 par div dee) H := hP
      have hD : va_D A (wP cI cJ cZ q pw co la (uZ vo x1 x2) cpar fr cdee use run nC tdue tlat twk nT edue elat ewk nE lenx_11 cntx_12 tin spx_7 pex_8 slp late srv hv av bd sh sc lt rule now stx_6 asl idlx_9 idnx_10 par div dee) := hD
      have hq9 := r_3
      refine lv_goto (tgt := 133) hx hb dL_sets_23 (by decide) ?_
      subst hQ
      exact zret_i (W1 := fun u9 : Int × Int × Int × (Int → Int) × Int × (Int → Int) × Int => wP cI cJ cZ q pw co la (uZ vo x1 x2) cpar fr cdee use run nC tdue tlat twk nT edue elat ewk nE (u9.2.2.2.2.2.1) (u9.2.2.2.2.2.2) tin (u9.2.1) (u9.2.2.1) slp late srv hv av bd sh sc lt rule now (u9.1) asl (u9.2.2.2.1) (u9.2.2.2.2.1) par div dee) (stx_6, spx_7, pex_8, idlx_9, idnx_10, lenx_11, cntx_12) hx hb hr hP hD hS hlocks dL_sets_133 (by exact ⟨rfl, hq9⟩)
  · skip
    exact absurd c_1 (by decide)
def rmL_sets_bad1 : Room := { frames := 7, cells := 1, slots := 6, locals := 152 }
set_option maxRecDepth 100000 in
set_option maxHeartbeats 4000000 in
theorem kL_sets_bad1 (l : Launch) (dC : Nat → ClassId) (dI : Nat → Nat → Nat) (cI cJ cZ : ClassId) (q : Nat → Nat)  (pw : Int → Int) (co : Int → Int) (la : Int → Int) (vo : Int → Int) (cpar : Int → Int) (fr : Int → Int) (cdee : Int → Int) (use : Int → Int) (run : Int → Int) (nC : Int) (tdue : Int → Int) (tlat : Int → Int) (twk : Int → Int) (nT : Int) (edue : Int → Int) (elat : Int → Int) (ewk : Int → Int) (nE : Int) (len : Int → Int) (cnt : Int) (tin : Int → Int) (sp : Int) (pe : Int) (slp : Int) (late : Int) (srv : Int) (hv : Int → Int) (av : Int) (bd : Int) (sh : Int) (sc : Int → Int) (lt : Int → Int) (rule : Int) (now : Int) (st : Int) (asl : Int) (idl : Int → Int) (idn : Int) (par : Int → Int) (div : Int → Int) (dee : Int → Int) (x1 x2 : Int) (hx1 : zR x1) (hx2 : zR x2) (hst : 0 ≤ st ∧ st ≤ 3) (hpw : rgZ pw 4 1000) (hco : rgZ co 4 10000) (hla : rgZ la 4 100) (hnow : 0 ≤ now ∧ now ≤ 200000) (hasl : 0 ≤ asl ∧ asl ≤ now) (hid : idR len cnt idl idn) (hbad : ¬ ((0 ≤ x1 ∧ x1 ≤ 5) ∧ (0 ≤ x2 ∧ x2 ≤ 3))) : zMyi l yL_sets wsL_sets rmL_sets_bad1 (dC, dI) (zT cI cJ cZ) (wP cI cJ cZ q pw co la vo cpar fr cdee use run nC tdue tlat twk nT edue elat ewk nE len cnt tin sp pe slp late srv hv av bd sh sc lt rule now st asl idl idn par div dee) [.ref (q 0), .int (iI 1), .int (iI x1), .int (iI x2), .int (iI 0)] (fun (r9 : Int) (_ : Unit) => r9 = (-82)) (fun _ : Unit => wP cI cJ cZ q pw co la vo cpar fr cdee use run nC tdue tlat twk nT edue elat ewk nE len cnt tin sp pe slp late srv hv av bd sh sc lt rule now st asl idl idn par div dee) := by
  refine zenty_i (cc := cL_sets) (maxL := 6) (ret := (some .int)) (by decide +kernel) rfl (Nat.le_of_ble_eq_true rfl) ?_
  intro p e s m below meth c A ls htr htab hY hX hE hP hK hA hD hS hl
  obtain ⟨hx, hb, hr, hml, hown, hts, hlocks, hmn⟩ := hE
  have hinX7 : ∀ w ∈ u_ws RX7 TX7 13, w ∈ wsL_sets := by decide +kernel
  have hinX6 : ∀ w ∈ u_ws RX6 TX6 3, w ∈ wsL_sets := by decide +kernel
  have hinX4 : ∀ w ∈ u_ws RX4 TX4 6, w ∈ wsL_sets := by decide +kernel
  have hinX2 : ∀ w ∈ u_ws RX2 TX2 2, w ∈ wsL_sets := by decide +kernel
  have hinX1 : ∀ w ∈ u_ws RX1 TX1 6, w ∈ wsL_sets := by decide +kernel
  have hinX3 : ∀ w ∈ u_ws RX3 TX3 4, w ∈ wsL_sets := by decide +kernel
  have hinX0 : ∀ w ∈ u_ws RX0 TX0 4, w ∈ wsL_sets := by decide +kernel
  have hl : lv_has ls 6 [(0, .ref (q 0)), (1, .int (iI 1)), (2, .int (iI x1)), (3, .int (iI x2)), (4, .int (iI 0))] := hl
  refine z_gen (fun Q hQ => ?_)
  refine lv_iload_n hx hb dL_sets_0 rfl (lv_at hl 1 rfl) ?_
  refine zi_fne (tgt := 12) hx hb (by decide) dL_sets_1 (by decide) (fun c_1 => ?_) (fun c_1 => ?_)
  · skip
    refine lv_iload_n hx hb dL_sets_12 rfl (lv_at hl 1 rfl) ?_
    refine lv_iconst (v := iI 1) hx hb dL_sets_13 rfl ?_
    refine zi_cne (tgt := 26) hx hb (by decide) (by decide) dL_sets_14 (by decide) (fun c_2 => ?_) (fun c_2 => ?_)
    · skip
      exact absurd c_2 (by decide)
    · skip
      refine lv_aload_n hx hb dL_sets_17 rfl (lv_at hl 0 rfl) ?_
      refine lv_iload_n hx hb dL_sets_18 rfl (lv_at hl 2 rfl) ?_
      refine lv_iload_n hx hb dL_sets_19 rfl (lv_at hl 3 rfl) ?_
      refine zxc_i (vx_runV (As := [.int (iI x1), .int (iI x2)]) (rest := []) ⟨hx, hb, hml, hown, hts⟩ (kX7_vote l dC dI cI cJ cZ q pw co la vo cpar fr cdee use run nC tdue tlat twk nT edue elat ewk nE len cnt tin sp pe slp late srv hv av bd sh sc lt rule now st asl idl idn par div dee x1 x2 (by first | assumption | omega | exact b2i_01 _) (by first | assumption | omega | exact b2i_01 _) (by first | assumption | omega | exact b2i_01 _) (by first | assumption | omega | exact b2i_01 _) (by first | assumption | omega | exact b2i_01 _) (by first | assumption | omega | exact b2i_01 _) (by first | assumption | omega | exact b2i_01 _) (by first | assumption | omega | exact b2i_01 _) (by first | assumption | omega | exact b2i_01 _) htr s.heap.size) (cwV 2 hts gL_sets_X7_vote rfl rfl rfl (by decide +kernel) ⟨Nat.le_of_ble_eq_true rfl, Nat.le_of_ble_eq_true rfl⟩) (zxV hX hS hA hK hP hD [0, 1, 2, 3, 4, 5, 6, 7, 8, 9, 10, 11, 12, 13, 14, 15, 16, 17, 18, 19, 20, 21, 22, 23, 24, 25, 26, 27, 28] rfl rfl 0 rfl rfl) rfl rfl hl.1 rfl (lv_room (Nat.le_of_ble_eq_true rfl)) dL_sets_20 ⟨Nat.le_of_ble_eq_true rfl, Nat.le_of_ble_eq_true rfl⟩) hP hD hS hA [0, 1, 2, 3, 4, 5, 6, 7, 8, 9, 10, 11, 12, 13, 14, 15, 16, 17, 18, 19, 20, 21, 22, 23, 24, 25, 26, 27, 28] [] rfl rfl rfl (by decide) (fun E_16 ce_14 q_15 H locs x_13 hP hD hS h71 h72 h73 => ?_) (fun v_5 u_4 H locs r_3 hP hD hS => ?_)
      · skip
        have hP : va_P (dC, dI) vwCl (wP cI cJ cZ q pw co la vo cpar fr cdee use run nC tdue tlat twk nT edue elat ewk nE len cnt tin sp pe slp late srv hv av bd sh sc lt rule now st asl idl idn par div dee) H := hP
        have hD : va_D A (wP cI cJ cZ q pw co la vo cpar fr cdee use run nC tdue tlat twk nT edue elat ewk nE len cnt tin sp pe slp late srv hv av bd sh sc lt rule now st asl idl idn par div dee) := hD
        rcases x_13 with ⟨rfl, hc9⟩
        · skip
          refine vx_catch (own := RL) (name := xA) hown [⟨0, 133, 134, 43⟩] ⟨0, 133, 139, 45⟩ [⟨0, 133, 144, 47⟩] (by rw [htab]; rfl) (fun z hz => by (simp only [List.mem_cons, List.not_mem_nil, or_false] at hz); rcases hz with rfl; exact Or.inr ⟨by decide, xI, (hts _ (List.mem_of_getElem? (i := 1) rfl)), hY.1⟩) (by decide) (by decide) (hts _ (List.mem_of_getElem? (i := 2) rfl)) (va_Nw.use rfl (hX.1.1 xA (List.mem_of_getElem? (i := 0) rfl))) h71 h72 h73 ?_
          refine lv_astore (lv' := [(5, .ref q_15), (0, .ref (q 0)), (1, .int (iI 1)), (2, .int (iI x1)), (3, .int (iI x2)), (4, .int (iI 0))]) hx hb dL_sets_139 hl (by decide) rfl (fun ls hl => ?_)
          refine lv_bipush (v := iI (-82)) hx hb dL_sets_141 (by decide) ?_
          subst hQ
          refine W.widen (k := 1) (n := 6) (by decide) (by decide) ?_
          exact zret_i (W1 := fun _ : Unit => wP cI cJ cZ q pw co la vo cpar fr cdee use run nC tdue tlat twk nT edue elat ewk nE len cnt tin sp pe slp late srv hv av bd sh sc lt rule now st asl idl idn par div dee) () hx hb hr hP hD hS hlocks dL_sets_143 (by exact rfl)
      obtain ⟨stx_6, spx_7, pex_8, idlx_9, idnx_10, lenx_11, cntx_12⟩ := u_4
      obtain ⟨v_17, r_3⟩ := r_3
      refine ze_i v_17 ?_
      have r_3 : ((0 ≤ x1 ∧ x1 ≤ 5) ∧ (0 ≤ x2 ∧ x2 ≤ 3)) ∧ (stx_6, spx_7, pex_8, idlx_9, idnx_10) = scF pw la st asl now sp pe idl idn ∧ idR lenx_11 cntx_12 idlx_9 idnx_10 := r_3
      exact absurd (r_3).1 hbad
  · skip
    exact absurd c_1 (by decide)
def rmL_sets_ok3 : Room := { frames := 7, cells := 0, slots := 0, locals := 152 }
set_option maxRecDepth 100000 in
set_option maxHeartbeats 4000000 in
theorem kL_sets_ok3 (l : Launch) (dC : Nat → ClassId) (dI : Nat → Nat → Nat) (cI cJ cZ : ClassId) (q : Nat → Nat)  (pw : Int → Int) (co : Int → Int) (la : Int → Int) (vo : Int → Int) (cpar : Int → Int) (fr : Int → Int) (cdee : Int → Int) (use : Int → Int) (run : Int → Int) (nC : Int) (tdue : Int → Int) (tlat : Int → Int) (twk : Int → Int) (nT : Int) (edue : Int → Int) (elat : Int → Int) (ewk : Int → Int) (nE : Int) (len : Int → Int) (cnt : Int) (tin : Int → Int) (sp : Int) (pe : Int) (slp : Int) (late : Int) (srv : Int) (hv : Int → Int) (av : Int) (bd : Int) (sh : Int) (sc : Int → Int) (lt : Int → Int) (rule : Int) (now : Int) (st : Int) (asl : Int) (idl : Int → Int) (idn : Int) (par : Int → Int) (div : Int → Int) (dee : Int → Int) (x1 : Int) (hx1 : zR x1) (hst : 0 ≤ st ∧ st ≤ 3) (hpw : rgZ pw 4 1000) (hco : rgZ co 4 10000) (hla : rgZ la 4 100) (hnow : 0 ≤ now ∧ now ≤ 200000) (hasl : 0 ≤ asl ∧ asl ≤ now) (hid : idR len cnt idl idn) (hnC : 1 ≤ nC ∧ nC ≤ 8) (huse : rgZ use 8 9) (hok : (0 ≤ x1 ∧ x1 < nC) ∧ use x1 < 9) : zMi l yL_sets wsL_sets rmL_sets_ok3 (dC, dI) (zT cI cJ cZ) (wP cI cJ cZ q pw co la vo cpar fr cdee use run nC tdue tlat twk nT edue elat ewk nE len cnt tin sp pe slp late srv hv av bd sh sc lt rule now st asl idl idn par div dee) [.ref (q 0), .int (iI 3), .int (iI x1), .int (iI 0), .int (iI 0)] (fun (r9 : Int) (u9 : Int × Int × Int × (Int → Int) × Int × (Int → Int) × Int) => r9 = use x1 + 1 ∧ (((u9.1), (u9.2.1), (u9.2.2.1), (u9.2.2.2.1), (u9.2.2.2.2.1)) = scF pw la st asl now sp pe idl idn ∧ idR (u9.2.2.2.2.2.1) (u9.2.2.2.2.2.2) (u9.2.2.2.1) (u9.2.2.2.2.1))) (fun u9 : Int × Int × Int × (Int → Int) × Int × (Int → Int) × Int => wP cI cJ cZ q pw co la vo cpar fr cdee (uZ use x1 (use x1 + 1)) run nC tdue tlat twk nT edue elat ewk nE (u9.2.2.2.2.2.1) (u9.2.2.2.2.2.2) tin (u9.2.1) (u9.2.2.1) slp late srv hv av bd sh sc lt rule now (u9.1) asl (u9.2.2.2.1) (u9.2.2.2.2.1) par div dee) 0 0 := by
  refine zentu_i (cc := cL_sets) (maxL := 6) (ret := (some .int)) (by decide +kernel) rfl (Nat.le_of_ble_eq_true rfl) ?_
  intro p e s m below meth c A ls hE hP hK hA hD hS hl
  obtain ⟨hx, hb, hr, hml, hown, hts, hlocks, hmn⟩ := hE
  have hinX7 : ∀ w ∈ u_ws RX7 TX7 13, w ∈ wsL_sets := by decide +kernel
  have hinX6 : ∀ w ∈ u_ws RX6 TX6 3, w ∈ wsL_sets := by decide +kernel
  have hinX4 : ∀ w ∈ u_ws RX4 TX4 6, w ∈ wsL_sets := by decide +kernel
  have hinX2 : ∀ w ∈ u_ws RX2 TX2 2, w ∈ wsL_sets := by decide +kernel
  have hinX1 : ∀ w ∈ u_ws RX1 TX1 6, w ∈ wsL_sets := by decide +kernel
  have hinX3 : ∀ w ∈ u_ws RX3 TX3 4, w ∈ wsL_sets := by decide +kernel
  have hinX0 : ∀ w ∈ u_ws RX0 TX0 4, w ∈ wsL_sets := by decide +kernel
  have hl : lv_has ls 6 [(0, .ref (q 0)), (1, .int (iI 3)), (2, .int (iI x1)), (3, .int (iI 0)), (4, .int (iI 0))] := hl
  refine z_gen (fun Q hQ => ?_)
  refine lv_iload_n hx hb dL_sets_0 rfl (lv_at hl 1 rfl) ?_
  refine zi_fne (tgt := 12) hx hb (by decide) dL_sets_1 (by decide) (fun c_1 => ?_) (fun c_1 => ?_)
  · skip
    refine lv_iload_n hx hb dL_sets_12 rfl (lv_at hl 1 rfl) ?_
    refine lv_iconst (v := iI 1) hx hb dL_sets_13 rfl ?_
    refine zi_cne (tgt := 26) hx hb (by decide) (by decide) dL_sets_14 (by decide) (fun c_2 => ?_) (fun c_2 => ?_)
    · skip
      refine lv_iload_n hx hb dL_sets_26 rfl (lv_at hl 1 rfl) ?_
      refine lv_iconst (v := iI 2) hx hb dL_sets_27 rfl ?_
      refine zi_cne (tgt := 42) hx hb (by decide) (by decide) dL_sets_28 (by decide) (fun c_3 => ?_) (fun c_3 => ?_)
      · skip
        refine lv_iload_n hx hb dL_sets_42 rfl (lv_at hl 1 rfl) ?_
        refine lv_iconst (v := iI 3) hx hb dL_sets_43 rfl ?_
        refine zi_cne (tgt := 55) hx hb (by decide) (by decide) dL_sets_44 (by decide) (fun c_4 => ?_) (fun c_4 => ?_)
        · skip
          exact absurd c_4 (by decide)
        · skip
          refine lv_aload_n hx hb dL_sets_47 rfl (lv_at hl 0 rfl) ?_
          refine lv_iload_n hx hb dL_sets_48 rfl (lv_at hl 2 rfl) ?_
          refine zc_i (va_runV (As := [.int (iI x1)]) (rest := []) ⟨hx, hb, hml, hown, hts⟩ (kX7_use_ok l dC dI cI cJ cZ q pw co la vo cpar fr cdee use run nC tdue tlat twk nT edue elat ewk nE len cnt tin sp pe slp late srv hv av bd sh sc lt rule now st asl idl idn par div dee x1 (by first | assumption | omega | exact b2i_01 _) (by first | assumption | omega | exact b2i_01 _) (by first | assumption | omega | exact b2i_01 _) (by first | assumption | omega | exact b2i_01 _) (by first | assumption | omega | exact b2i_01 _) (by first | assumption | omega | exact b2i_01 _) (by first | assumption | omega | exact b2i_01 _) (by first | assumption | omega | exact b2i_01 _) (by first | assumption | omega | exact b2i_01 _) (by first | assumption | omega | exact b2i_01 _) (by first | assumption | omega | exact b2i_01 _) s.heap.size) (cwV 1 hts gL_sets_X7_use rfl rfl rfl (by decide +kernel) ⟨Nat.le_of_ble_eq_true rfl, Nat.le_of_ble_eq_true rfl⟩) (zpV hK hP hD [0, 1, 2, 3, 4, 5, 6, 7, 8, 9, 10, 11, 12, 13, 14, 15, 16, 17, 18, 19, 20, 21, 22, 23, 24, 25, 26, 27, 28] rfl rfl 0 rfl rfl) rfl rfl hl.1 rfl (lv_room (Nat.le_of_ble_eq_true rfl)) dL_sets_49 ⟨Nat.le_of_ble_eq_true rfl, Nat.le_of_ble_eq_true rfl⟩) hP hD hS hA [0, 1, 2, 3, 4, 5, 6, 7, 8, 9, 10, 11, 12, 13, 14, 15, 16, 17, 18, 19, 20, 21, 22, 23, 24, 25, 26, 27, 28] [] rfl rfl rfl (by decide) (fun v_7 u_6 H locs r_5 hP hD hS => ?_)
          obtain ⟨stx_8, spx_9, pex_10, idlx_11, idnx_12, lenx_13, cntx_14⟩ := u_6
          obtain ⟨v_15, r_5⟩ := r_5
          refine ze_i v_15 ?_
          have r_5 : (stx_8, spx_9, pex_10, idlx_11, idnx_12) = scF pw la st asl now sp pe idl idn ∧ idR lenx_13 cntx_14 idlx_11 idnx_12 := r_5
          have hP : va_P (dC, dI) vwCl (wP cI cJ cZ q pw co la vo cpar fr cdee (uZ use x1 (use x1 + 1)) run nC tdue tlat twk nT edue elat ewk nE lenx_13 cntx_14 tin spx_9 pex_10 slp late srv hv av bd sh sc lt rule now stx_8 asl idlx_11 idnx_12 par div dee) H := hP
          have hD : va_D A (wP cI cJ cZ q pw co la vo cpar fr cdee (uZ use x1 (use x1 + 1)) run nC tdue tlat twk nT edue elat ewk nE lenx_13 cntx_14 tin spx_9 pex_10 slp late srv hv av bd sh sc lt rule now stx_8 asl idlx_11 idnx_12 par div dee) := hD
          have hq9 := r_5
          refine lv_goto (tgt := 133) hx hb dL_sets_52 (by decide) ?_
          subst hQ
          exact zret_i (W1 := fun u9 : Int × Int × Int × (Int → Int) × Int × (Int → Int) × Int => wP cI cJ cZ q pw co la vo cpar fr cdee (uZ use x1 (use x1 + 1)) run nC tdue tlat twk nT edue elat ewk nE (u9.2.2.2.2.2.1) (u9.2.2.2.2.2.2) tin (u9.2.1) (u9.2.2.1) slp late srv hv av bd sh sc lt rule now (u9.1) asl (u9.2.2.2.1) (u9.2.2.2.2.1) par div dee) (stx_8, spx_9, pex_10, idlx_11, idnx_12, lenx_13, cntx_14) hx hb hr hP hD hS hlocks dL_sets_133 (by exact ⟨rfl, hq9⟩)
      · skip
        exact absurd c_3 (by decide)
    · skip
      exact absurd c_2 (by decide)
  · skip
    exact absurd c_1 (by decide)
def rmL_sets_bad3 : Room := { frames := 7, cells := 1, slots := 6, locals := 152 }
set_option maxRecDepth 100000 in
set_option maxHeartbeats 4000000 in
theorem kL_sets_bad3 (l : Launch) (dC : Nat → ClassId) (dI : Nat → Nat → Nat) (cI cJ cZ : ClassId) (q : Nat → Nat)  (pw : Int → Int) (co : Int → Int) (la : Int → Int) (vo : Int → Int) (cpar : Int → Int) (fr : Int → Int) (cdee : Int → Int) (use : Int → Int) (run : Int → Int) (nC : Int) (tdue : Int → Int) (tlat : Int → Int) (twk : Int → Int) (nT : Int) (edue : Int → Int) (elat : Int → Int) (ewk : Int → Int) (nE : Int) (len : Int → Int) (cnt : Int) (tin : Int → Int) (sp : Int) (pe : Int) (slp : Int) (late : Int) (srv : Int) (hv : Int → Int) (av : Int) (bd : Int) (sh : Int) (sc : Int → Int) (lt : Int → Int) (rule : Int) (now : Int) (st : Int) (asl : Int) (idl : Int → Int) (idn : Int) (par : Int → Int) (div : Int → Int) (dee : Int → Int) (x1 : Int) (hx1 : zR x1) (hst : 0 ≤ st ∧ st ≤ 3) (hpw : rgZ pw 4 1000) (hco : rgZ co 4 10000) (hla : rgZ la 4 100) (hnow : 0 ≤ now ∧ now ≤ 200000) (hasl : 0 ≤ asl ∧ asl ≤ now) (hid : idR len cnt idl idn) (hnC : 1 ≤ nC ∧ nC ≤ 8) (huse : rgZ use 8 9) (hbad : ¬ (0 ≤ x1 ∧ x1 < nC)) : zMyi l yL_sets wsL_sets rmL_sets_bad3 (dC, dI) (zT cI cJ cZ) (wP cI cJ cZ q pw co la vo cpar fr cdee use run nC tdue tlat twk nT edue elat ewk nE len cnt tin sp pe slp late srv hv av bd sh sc lt rule now st asl idl idn par div dee) [.ref (q 0), .int (iI 3), .int (iI x1), .int (iI 0), .int (iI 0)] (fun (r9 : Int) (_ : Unit) => r9 = (-81)) (fun _ : Unit => wP cI cJ cZ q pw co la vo cpar fr cdee use run nC tdue tlat twk nT edue elat ewk nE len cnt tin sp pe slp late srv hv av bd sh sc lt rule now st asl idl idn par div dee) := by
  refine zenty_i (cc := cL_sets) (maxL := 6) (ret := (some .int)) (by decide +kernel) rfl (Nat.le_of_ble_eq_true rfl) ?_
  intro p e s m below meth c A ls htr htab hY hX hE hP hK hA hD hS hl
  obtain ⟨hx, hb, hr, hml, hown, hts, hlocks, hmn⟩ := hE
  have hinX7 : ∀ w ∈ u_ws RX7 TX7 13, w ∈ wsL_sets := by decide +kernel
  have hinX6 : ∀ w ∈ u_ws RX6 TX6 3, w ∈ wsL_sets := by decide +kernel
  have hinX4 : ∀ w ∈ u_ws RX4 TX4 6, w ∈ wsL_sets := by decide +kernel
  have hinX2 : ∀ w ∈ u_ws RX2 TX2 2, w ∈ wsL_sets := by decide +kernel
  have hinX1 : ∀ w ∈ u_ws RX1 TX1 6, w ∈ wsL_sets := by decide +kernel
  have hinX3 : ∀ w ∈ u_ws RX3 TX3 4, w ∈ wsL_sets := by decide +kernel
  have hinX0 : ∀ w ∈ u_ws RX0 TX0 4, w ∈ wsL_sets := by decide +kernel
  have hl : lv_has ls 6 [(0, .ref (q 0)), (1, .int (iI 3)), (2, .int (iI x1)), (3, .int (iI 0)), (4, .int (iI 0))] := hl
  refine z_gen (fun Q hQ => ?_)
  refine lv_iload_n hx hb dL_sets_0 rfl (lv_at hl 1 rfl) ?_
  refine zi_fne (tgt := 12) hx hb (by decide) dL_sets_1 (by decide) (fun c_1 => ?_) (fun c_1 => ?_)
  · skip
    refine lv_iload_n hx hb dL_sets_12 rfl (lv_at hl 1 rfl) ?_
    refine lv_iconst (v := iI 1) hx hb dL_sets_13 rfl ?_
    refine zi_cne (tgt := 26) hx hb (by decide) (by decide) dL_sets_14 (by decide) (fun c_2 => ?_) (fun c_2 => ?_)
    · skip
      refine lv_iload_n hx hb dL_sets_26 rfl (lv_at hl 1 rfl) ?_
      refine lv_iconst (v := iI 2) hx hb dL_sets_27 rfl ?_
      refine zi_cne (tgt := 42) hx hb (by decide) (by decide) dL_sets_28 (by decide) (fun c_3 => ?_) (fun c_3 => ?_)
      · skip
        refine lv_iload_n hx hb dL_sets_42 rfl (lv_at hl 1 rfl) ?_
        refine lv_iconst (v := iI 3) hx hb dL_sets_43 rfl ?_
        refine zi_cne (tgt := 55) hx hb (by decide) (by decide) dL_sets_44 (by decide) (fun c_4 => ?_) (fun c_4 => ?_)
        · skip
          exact absurd c_4 (by decide)
        · skip
          refine lv_aload_n hx hb dL_sets_47 rfl (lv_at hl 0 rfl) ?_
          refine lv_iload_n hx hb dL_sets_48 rfl (lv_at hl 2 rfl) ?_
          refine zxc_i (vx_runV (As := [.int (iI x1)]) (rest := []) ⟨hx, hb, hml, hown, hts⟩ (kX7_use l dC dI cI cJ cZ q pw co la vo cpar fr cdee use run nC tdue tlat twk nT edue elat ewk nE len cnt tin sp pe slp late srv hv av bd sh sc lt rule now st asl idl idn par div dee x1 (by first | assumption | omega | exact b2i_01 _) (by first | assumption | omega | exact b2i_01 _) (by first | assumption | omega | exact b2i_01 _) (by first | assumption | omega | exact b2i_01 _) (by first | assumption | omega | exact b2i_01 _) (by first | assumption | omega | exact b2i_01 _) (by first | assumption | omega | exact b2i_01 _) (by first | assumption | omega | exact b2i_01 _) (by first | assumption | omega | exact b2i_01 _) (by first | assumption | omega | exact b2i_01 _) htr s.heap.size) (cwV 1 hts gL_sets_X7_use rfl rfl rfl (by decide +kernel) ⟨Nat.le_of_ble_eq_true rfl, Nat.le_of_ble_eq_true rfl⟩) (zxV hX hS hA hK hP hD [0, 1, 2, 3, 4, 5, 6, 7, 8, 9, 10, 11, 12, 13, 14, 15, 16, 17, 18, 19, 20, 21, 22, 23, 24, 25, 26, 27, 28] rfl rfl 0 rfl rfl) rfl rfl hl.1 rfl (lv_room (Nat.le_of_ble_eq_true rfl)) dL_sets_49 ⟨Nat.le_of_ble_eq_true rfl, Nat.le_of_ble_eq_true rfl⟩) hP hD hS hA [0, 1, 2, 3, 4, 5, 6, 7, 8, 9, 10, 11, 12, 13, 14, 15, 16, 17, 18, 19, 20, 21, 22, 23, 24, 25, 26, 27, 28] [] rfl rfl rfl (by decide) (fun E_18 ce_16 q_17 H locs x_15 hP hD hS h71 h72 h73 => ?_) (fun v_7 u_6 H locs r_5 hP hD hS => ?_)
          · skip
            have hP : va_P (dC, dI) vwCl (wP cI cJ cZ q pw co la vo cpar fr cdee use run nC tdue tlat twk nT edue elat ewk nE len cnt tin sp pe slp late srv hv av bd sh sc lt rule now st asl idl idn par div dee) H := hP
            have hD : va_D A (wP cI cJ cZ q pw co la vo cpar fr cdee use run nC tdue tlat twk nT edue elat ewk nE len cnt tin sp pe slp late srv hv av bd sh sc lt rule now st asl idl idn par div dee) := hD
            rcases x_15 with ⟨rfl, hc9⟩ | ⟨rfl, hc9⟩
            · skip
              refine vx_catch (own := RL) (name := xI) hown [] ⟨0, 133, 134, 43⟩ [⟨0, 133, 139, 45⟩, ⟨0, 133, 144, 47⟩] (by rw [htab]; rfl) (fun z hz => absurd hz List.not_mem_nil) (by decide) (by decide) (hts _ (List.mem_of_getElem? (i := 1) rfl)) (va_Nw.use rfl (hX.1.1 xI (List.mem_of_getElem? (i := 1) rfl))) h71 h72 h73 ?_
              refine lv_astore (lv' := [(5, .ref q_17), (0, .ref (q 0)), (1, .int (iI 3)), (2, .int (iI x1)), (3, .int (iI 0)), (4, .int (iI 0))]) hx hb dL_sets_134 hl (by decide) rfl (fun ls hl => ?_)
              refine lv_bipush (v := iI (-81)) hx hb dL_sets_136 (by decide) ?_
              subst hQ
              refine W.widen (k := 1) (n := 6) (by decide) (by decide) ?_
              exact zret_i (W1 := fun _ : Unit => wP cI cJ cZ q pw co la vo cpar fr cdee use run nC tdue tlat twk nT edue elat ewk nE len cnt tin sp pe slp late srv hv av bd sh sc lt rule now st asl idl idn par div dee) () hx hb hr hP hD hS hlocks dL_sets_138 (by exact rfl)
            · skip
              exact absurd hc9.1 hbad
          obtain ⟨stx_8, spx_9, pex_10, idlx_11, idnx_12, lenx_13, cntx_14⟩ := u_6
          obtain ⟨v_19, r_5⟩ := r_5
          refine ze_i v_19 ?_
          have r_5 : ((0 ≤ x1 ∧ x1 < nC) ∧ use x1 < 9) ∧ (stx_8, spx_9, pex_10, idlx_11, idnx_12) = scF pw la st asl now sp pe idl idn ∧ idR lenx_13 cntx_14 idlx_11 idnx_12 := r_5
          exact absurd (r_5).1.1 hbad
      · skip
        exact absurd c_3 (by decide)
    · skip
      exact absurd c_2 (by decide)
  · skip
    exact absurd c_1 (by decide)
def rmL_sets_ok4 : Room := { frames := 7, cells := 0, slots := 0, locals := 152 }
set_option maxRecDepth 100000 in
set_option maxHeartbeats 4000000 in
theorem kL_sets_ok4 (l : Launch) (dC : Nat → ClassId) (dI : Nat → Nat → Nat) (cI cJ cZ : ClassId) (q : Nat → Nat)  (pw : Int → Int) (co : Int → Int) (la : Int → Int) (vo : Int → Int) (cpar : Int → Int) (fr : Int → Int) (cdee : Int → Int) (use : Int → Int) (run : Int → Int) (nC : Int) (tdue : Int → Int) (tlat : Int → Int) (twk : Int → Int) (nT : Int) (edue : Int → Int) (elat : Int → Int) (ewk : Int → Int) (nE : Int) (len : Int → Int) (cnt : Int) (tin : Int → Int) (sp : Int) (pe : Int) (slp : Int) (late : Int) (srv : Int) (hv : Int → Int) (av : Int) (bd : Int) (sh : Int) (sc : Int → Int) (lt : Int → Int) (rule : Int) (now : Int) (st : Int) (asl : Int) (idl : Int → Int) (idn : Int) (par : Int → Int) (div : Int → Int) (dee : Int → Int) (x1 : Int) (hx1 : zR x1) (hst : 0 ≤ st ∧ st ≤ 3) (hpw : rgZ pw 4 1000) (hco : rgZ co 4 10000) (hla : rgZ la 4 100) (hnow : 0 ≤ now ∧ now ≤ 200000) (hasl : 0 ≤ asl ∧ asl ≤ now) (hid : idR len cnt idl idn) (hnC : 1 ≤ nC ∧ nC ≤ 8) (huse : rgZ use 8 9) (hok : (0 ≤ x1 ∧ x1 < nC) ∧ 0 < use x1) : zMi l yL_sets wsL_sets rmL_sets_ok4 (dC, dI) (zT cI cJ cZ) (wP cI cJ cZ q pw co la vo cpar fr cdee use run nC tdue tlat twk nT edue elat ewk nE len cnt tin sp pe slp late srv hv av bd sh sc lt rule now st asl idl idn par div dee) [.ref (q 0), .int (iI 4), .int (iI x1), .int (iI 0), .int (iI 0)] (fun (r9 : Int) (u9 : Int × Int × Int × (Int → Int) × Int × (Int → Int) × Int) => r9 = use x1 - 1 ∧ (((u9.1), (u9.2.1), (u9.2.2.1), (u9.2.2.2.1), (u9.2.2.2.2.1)) = scF pw la st asl now sp pe idl idn ∧ idR (u9.2.2.2.2.2.1) (u9.2.2.2.2.2.2) (u9.2.2.2.1) (u9.2.2.2.2.1))) (fun u9 : Int × Int × Int × (Int → Int) × Int × (Int → Int) × Int => wP cI cJ cZ q pw co la vo cpar fr cdee (uZ use x1 (use x1 - 1)) run nC tdue tlat twk nT edue elat ewk nE (u9.2.2.2.2.2.1) (u9.2.2.2.2.2.2) tin (u9.2.1) (u9.2.2.1) slp late srv hv av bd sh sc lt rule now (u9.1) asl (u9.2.2.2.1) (u9.2.2.2.2.1) par div dee) 0 0 := by
  refine zentu_i (cc := cL_sets) (maxL := 6) (ret := (some .int)) (by decide +kernel) rfl (Nat.le_of_ble_eq_true rfl) ?_
  intro p e s m below meth c A ls hE hP hK hA hD hS hl
  obtain ⟨hx, hb, hr, hml, hown, hts, hlocks, hmn⟩ := hE
  have hinX7 : ∀ w ∈ u_ws RX7 TX7 13, w ∈ wsL_sets := by decide +kernel
  have hinX6 : ∀ w ∈ u_ws RX6 TX6 3, w ∈ wsL_sets := by decide +kernel
  have hinX4 : ∀ w ∈ u_ws RX4 TX4 6, w ∈ wsL_sets := by decide +kernel
  have hinX2 : ∀ w ∈ u_ws RX2 TX2 2, w ∈ wsL_sets := by decide +kernel
  have hinX1 : ∀ w ∈ u_ws RX1 TX1 6, w ∈ wsL_sets := by decide +kernel
  have hinX3 : ∀ w ∈ u_ws RX3 TX3 4, w ∈ wsL_sets := by decide +kernel
  have hinX0 : ∀ w ∈ u_ws RX0 TX0 4, w ∈ wsL_sets := by decide +kernel
  have hl : lv_has ls 6 [(0, .ref (q 0)), (1, .int (iI 4)), (2, .int (iI x1)), (3, .int (iI 0)), (4, .int (iI 0))] := hl
  refine z_gen (fun Q hQ => ?_)
  refine lv_iload_n hx hb dL_sets_0 rfl (lv_at hl 1 rfl) ?_
  refine zi_fne (tgt := 12) hx hb (by decide) dL_sets_1 (by decide) (fun c_1 => ?_) (fun c_1 => ?_)
  · skip
    refine lv_iload_n hx hb dL_sets_12 rfl (lv_at hl 1 rfl) ?_
    refine lv_iconst (v := iI 1) hx hb dL_sets_13 rfl ?_
    refine zi_cne (tgt := 26) hx hb (by decide) (by decide) dL_sets_14 (by decide) (fun c_2 => ?_) (fun c_2 => ?_)
    · skip
      refine lv_iload_n hx hb dL_sets_26 rfl (lv_at hl 1 rfl) ?_
      refine lv_iconst (v := iI 2) hx hb dL_sets_27 rfl ?_
      refine zi_cne (tgt := 42) hx hb (by decide) (by decide) dL_sets_28 (by decide) (fun c_3 => ?_) (fun c_3 => ?_)
      · skip
        refine lv_iload_n hx hb dL_sets_42 rfl (lv_at hl 1 rfl) ?_
        refine lv_iconst (v := iI 3) hx hb dL_sets_43 rfl ?_
        refine zi_cne (tgt := 55) hx hb (by decide) (by decide) dL_sets_44 (by decide) (fun c_4 => ?_) (fun c_4 => ?_)
        · skip
          refine lv_iload_n hx hb dL_sets_55 rfl (lv_at hl 1 rfl) ?_
          refine lv_iconst (v := iI 4) hx hb dL_sets_56 rfl ?_
          refine zi_cne (tgt := 68) hx hb (by decide) (by decide) dL_sets_57 (by decide) (fun c_5 => ?_) (fun c_5 => ?_)
          · skip
            exact absurd c_5 (by decide)
          · skip
            refine lv_aload_n hx hb dL_sets_60 rfl (lv_at hl 0 rfl) ?_
            refine lv_iload_n hx hb dL_sets_61 rfl (lv_at hl 2 rfl) ?_
            refine zc_i (va_runV (As := [.int (iI x1)]) (rest := []) ⟨hx, hb, hml, hown, hts⟩ (kX7_release_ok l dC dI cI cJ cZ q pw co la vo cpar fr cdee use run nC tdue tlat twk nT edue elat ewk nE len cnt tin sp pe slp late srv hv av bd sh sc lt rule now st asl idl idn par div dee x1 (by first | assumption | omega | exact b2i_01 _) (by first | assumption | omega | exact b2i_01 _) (by first | assumption | omega | exact b2i_01 _) (by first | assumption | omega | exact b2i_01 _) (by first | assumption | omega | exact b2i_01 _) (by first | assumption | omega | exact b2i_01 _) (by first | assumption | omega | exact b2i_01 _) (by first | assumption | omega | exact b2i_01 _) (by first | assumption | omega | exact b2i_01 _) (by first | assumption | omega | exact b2i_01 _) (by first | assumption | omega | exact b2i_01 _) s.heap.size) (cwV 1 hts gL_sets_X7_release rfl rfl rfl (by decide +kernel) ⟨Nat.le_of_ble_eq_true rfl, Nat.le_of_ble_eq_true rfl⟩) (zpV hK hP hD [0, 1, 2, 3, 4, 5, 6, 7, 8, 9, 10, 11, 12, 13, 14, 15, 16, 17, 18, 19, 20, 21, 22, 23, 24, 25, 26, 27, 28] rfl rfl 0 rfl rfl) rfl rfl hl.1 rfl (lv_room (Nat.le_of_ble_eq_true rfl)) dL_sets_62 ⟨Nat.le_of_ble_eq_true rfl, Nat.le_of_ble_eq_true rfl⟩) hP hD hS hA [0, 1, 2, 3, 4, 5, 6, 7, 8, 9, 10, 11, 12, 13, 14, 15, 16, 17, 18, 19, 20, 21, 22, 23, 24, 25, 26, 27, 28] [] rfl rfl rfl (by decide) (fun v_8 u_7 H locs r_6 hP hD hS => ?_)
            obtain ⟨stx_9, spx_10, pex_11, idlx_12, idnx_13, lenx_14, cntx_15⟩ := u_7
            obtain ⟨v_16, r_6⟩ := r_6
            refine ze_i v_16 ?_
            have r_6 : (stx_9, spx_10, pex_11, idlx_12, idnx_13) = scF pw la st asl now sp pe idl idn ∧ idR lenx_14 cntx_15 idlx_12 idnx_13 := r_6
            have hP : va_P (dC, dI) vwCl (wP cI cJ cZ q pw co la vo cpar fr cdee (uZ use x1 (use x1 - 1)) run nC tdue tlat twk nT edue elat ewk nE lenx_14 cntx_15 tin spx_10 pex_11 slp late srv hv av bd sh sc lt rule now stx_9 asl idlx_12 idnx_13 par div dee) H := hP
            have hD : va_D A (wP cI cJ cZ q pw co la vo cpar fr cdee (uZ use x1 (use x1 - 1)) run nC tdue tlat twk nT edue elat ewk nE lenx_14 cntx_15 tin spx_10 pex_11 slp late srv hv av bd sh sc lt rule now stx_9 asl idlx_12 idnx_13 par div dee) := hD
            have hq9 := r_6
            refine lv_goto (tgt := 133) hx hb dL_sets_65 (by decide) ?_
            subst hQ
            exact zret_i (W1 := fun u9 : Int × Int × Int × (Int → Int) × Int × (Int → Int) × Int => wP cI cJ cZ q pw co la vo cpar fr cdee (uZ use x1 (use x1 - 1)) run nC tdue tlat twk nT edue elat ewk nE (u9.2.2.2.2.2.1) (u9.2.2.2.2.2.2) tin (u9.2.1) (u9.2.2.1) slp late srv hv av bd sh sc lt rule now (u9.1) asl (u9.2.2.2.1) (u9.2.2.2.2.1) par div dee) (stx_9, spx_10, pex_11, idlx_12, idnx_13, lenx_14, cntx_15) hx hb hr hP hD hS hlocks dL_sets_133 (by exact ⟨rfl, hq9⟩)
        · skip
          exact absurd c_4 (by decide)
      · skip
        exact absurd c_3 (by decide)
    · skip
      exact absurd c_2 (by decide)
  · skip
    exact absurd c_1 (by decide)
def rmL_sets_ok5 : Room := { frames := 7, cells := 0, slots := 0, locals := 152 }
set_option maxRecDepth 100000 in
set_option maxHeartbeats 4000000 in
theorem kL_sets_ok5 (l : Launch) (dC : Nat → ClassId) (dI : Nat → Nat → Nat) (cI cJ cZ : ClassId) (q : Nat → Nat)  (pw : Int → Int) (co : Int → Int) (la : Int → Int) (vo : Int → Int) (cpar : Int → Int) (fr : Int → Int) (cdee : Int → Int) (use : Int → Int) (run : Int → Int) (nC : Int) (tdue : Int → Int) (tlat : Int → Int) (twk : Int → Int) (nT : Int) (edue : Int → Int) (elat : Int → Int) (ewk : Int → Int) (nE : Int) (len : Int → Int) (cnt : Int) (tin : Int → Int) (sp : Int) (pe : Int) (slp : Int) (late : Int) (srv : Int) (hv : Int → Int) (av : Int) (bd : Int) (sh : Int) (sc : Int → Int) (lt : Int → Int) (rule : Int) (now : Int) (st : Int) (asl : Int) (idl : Int → Int) (idn : Int) (par : Int → Int) (div : Int → Int) (dee : Int → Int) (x1 x2 x3 : Int) (hx1 : zR x1) (hx2 : zR x2) (hx3 : zR x3) (hst : 0 ≤ st ∧ st ≤ 3) (hpw : rgZ pw 4 1000) (hco : rgZ co 4 10000) (hla : rgZ la 4 100) (hnow : 0 ≤ now ∧ now ≤ 200000) (hasl : 0 ≤ asl ∧ asl ≤ now) (hid : idR len cnt idl idn) (hnT : 0 ≤ nT ∧ nT ≤ 12) (hok : ((now ≤ x1 ∧ x1 ≤ now + 1000) ∧ (0 ≤ x2 ∧ x2 ≤ 500) ∧ (1 ≤ x3 ∧ x3 ≤ 50)) ∧ nT < 12) : zMi l yL_sets wsL_sets rmL_sets_ok5 (dC, dI) (zT cI cJ cZ) (wP cI cJ cZ q pw co la vo cpar fr cdee use run nC tdue tlat twk nT edue elat ewk nE len cnt tin sp pe slp late srv hv av bd sh sc lt rule now st asl idl idn par div dee) [.ref (q 0), .int (iI 5), .int (iI x1), .int (iI x2), .int (iI x3)] (fun (r9 : Int) (u9 : Int × Int × Int × (Int → Int) × Int × (Int → Int) × Int) => r9 = nT + 1 ∧ (((u9.1), (u9.2.1), (u9.2.2.1), (u9.2.2.2.1), (u9.2.2.2.2.1)) = scF pw la st asl now sp pe idl idn ∧ idR (u9.2.2.2.2.2.1) (u9.2.2.2.2.2.2) (u9.2.2.2.1) (u9.2.2.2.2.1))) (fun u9 : Int × Int × Int × (Int → Int) × Int × (Int → Int) × Int => wP cI cJ cZ q pw co la vo cpar fr cdee use run nC (uZ tdue nT x1) (uZ tlat nT (x1 + x2)) (uZ twk nT x3) (nT + 1) edue elat ewk nE (u9.2.2.2.2.2.1) (u9.2.2.2.2.2.2) tin (u9.2.1) (u9.2.2.1) slp late srv hv av bd sh sc lt rule now (u9.1) asl (u9.2.2.2.1) (u9.2.2.2.2.1) par div dee) 0 0 := by
  refine zentu_i (cc := cL_sets) (maxL := 6) (ret := (some .int)) (by decide +kernel) rfl (Nat.le_of_ble_eq_true rfl) ?_
  intro p e s m below meth c A ls hE hP hK hA hD hS hl
  obtain ⟨hx, hb, hr, hml, hown, hts, hlocks, hmn⟩ := hE
  have hinX7 : ∀ w ∈ u_ws RX7 TX7 13, w ∈ wsL_sets := by decide +kernel
  have hinX6 : ∀ w ∈ u_ws RX6 TX6 3, w ∈ wsL_sets := by decide +kernel
  have hinX4 : ∀ w ∈ u_ws RX4 TX4 6, w ∈ wsL_sets := by decide +kernel
  have hinX2 : ∀ w ∈ u_ws RX2 TX2 2, w ∈ wsL_sets := by decide +kernel
  have hinX1 : ∀ w ∈ u_ws RX1 TX1 6, w ∈ wsL_sets := by decide +kernel
  have hinX3 : ∀ w ∈ u_ws RX3 TX3 4, w ∈ wsL_sets := by decide +kernel
  have hinX0 : ∀ w ∈ u_ws RX0 TX0 4, w ∈ wsL_sets := by decide +kernel
  have hl : lv_has ls 6 [(0, .ref (q 0)), (1, .int (iI 5)), (2, .int (iI x1)), (3, .int (iI x2)), (4, .int (iI x3))] := hl
  refine z_gen (fun Q hQ => ?_)
  refine lv_iload_n hx hb dL_sets_0 rfl (lv_at hl 1 rfl) ?_
  refine zi_fne (tgt := 12) hx hb (by decide) dL_sets_1 (by decide) (fun c_1 => ?_) (fun c_1 => ?_)
  · skip
    refine lv_iload_n hx hb dL_sets_12 rfl (lv_at hl 1 rfl) ?_
    refine lv_iconst (v := iI 1) hx hb dL_sets_13 rfl ?_
    refine zi_cne (tgt := 26) hx hb (by decide) (by decide) dL_sets_14 (by decide) (fun c_2 => ?_) (fun c_2 => ?_)
    · skip
      refine lv_iload_n hx hb dL_sets_26 rfl (lv_at hl 1 rfl) ?_
      refine lv_iconst (v := iI 2) hx hb dL_sets_27 rfl ?_
      refine zi_cne (tgt := 42) hx hb (by decide) (by decide) dL_sets_28 (by decide) (fun c_3 => ?_) (fun c_3 => ?_)
      · skip
        refine lv_iload_n hx hb dL_sets_42 rfl (lv_at hl 1 rfl) ?_
        refine lv_iconst (v := iI 3) hx hb dL_sets_43 rfl ?_
        refine zi_cne (tgt := 55) hx hb (by decide) (by decide) dL_sets_44 (by decide) (fun c_4 => ?_) (fun c_4 => ?_)
        · skip
          refine lv_iload_n hx hb dL_sets_55 rfl (lv_at hl 1 rfl) ?_
          refine lv_iconst (v := iI 4) hx hb dL_sets_56 rfl ?_
          refine zi_cne (tgt := 68) hx hb (by decide) (by decide) dL_sets_57 (by decide) (fun c_5 => ?_) (fun c_5 => ?_)
          · skip
            refine lv_iload_n hx hb dL_sets_68 rfl (lv_at hl 1 rfl) ?_
            refine lv_iconst (v := iI 5) hx hb dL_sets_69 rfl ?_
            refine zi_cne (tgt := 84) hx hb (by decide) (by decide) dL_sets_70 (by decide) (fun c_6 => ?_) (fun c_6 => ?_)
            · skip
              exact absurd c_6 (by decide)
            · skip
              refine lv_aload_n hx hb dL_sets_73 rfl (lv_at hl 0 rfl) ?_
              refine lv_iload_n hx hb dL_sets_74 rfl (lv_at hl 2 rfl) ?_
              refine lv_iload_n hx hb dL_sets_75 rfl (lv_at hl 3 rfl) ?_
              refine lv_iload hx hb dL_sets_76 (lv_at hl 4 rfl) ?_
              refine zc_i (va_runV (As := [.int (iI x1), .int (iI x2), .int (iI x3)]) (rest := []) ⟨hx, hb, hml, hown, hts⟩ (kX7_schedule_ok l dC dI cI cJ cZ q pw co la vo cpar fr cdee use run nC tdue tlat twk nT edue elat ewk nE len cnt tin sp pe slp late srv hv av bd sh sc lt rule now st asl idl idn par div dee x1 x2 x3 (by first | assumption | omega | exact b2i_01 _) (by first | assumption | omega | exact b2i_01 _) (by first | assumption | omega | exact b2i_01 _) (by first | assumption | omega | exact b2i_01 _) (by first | assumption | omega | exact b2i_01 _) (by first | assumption | omega | exact b2i_01 _) (by first | assumption | omega | exact b2i_01 _) (by first | assumption | omega | exact b2i_01 _) (by first | assumption | omega | exact b2i_01 _) (by first | assumption | omega | exact b2i_01 _) (by first | assumption | omega | exact b2i_01 _) (by first | assumption | omega | exact b2i_01 _) s.heap.size) (cwV 3 hts gL_sets_X7_schedule rfl rfl rfl (by decide +kernel) ⟨Nat.le_of_ble_eq_true rfl, Nat.le_of_ble_eq_true rfl⟩) (zpV hK hP hD [0, 1, 2, 3, 4, 5, 6, 7, 8, 9, 10, 11, 12, 13, 14, 15, 16, 17, 18, 19, 20, 21, 22, 23, 24, 25, 26, 27, 28] rfl rfl 0 rfl rfl) rfl rfl hl.1 rfl (lv_room (Nat.le_of_ble_eq_true rfl)) dL_sets_78 ⟨Nat.le_of_ble_eq_true rfl, Nat.le_of_ble_eq_true rfl⟩) hP hD hS hA [0, 1, 2, 3, 4, 5, 6, 7, 8, 9, 10, 11, 12, 13, 14, 15, 16, 17, 18, 19, 20, 21, 22, 23, 24, 25, 26, 27, 28] [] rfl rfl rfl (by decide) (fun v_9 u_8 H locs r_7 hP hD hS => ?_)
              obtain ⟨stx_10, spx_11, pex_12, idlx_13, idnx_14, lenx_15, cntx_16⟩ := u_8
              obtain ⟨v_17, r_7⟩ := r_7
              refine ze_i v_17 ?_
              have r_7 : (stx_10, spx_11, pex_12, idlx_13, idnx_14) = scF pw la st asl now sp pe idl idn ∧ idR lenx_15 cntx_16 idlx_13 idnx_14 := r_7
              have hP : va_P (dC, dI) vwCl (wP cI cJ cZ q pw co la vo cpar fr cdee use run nC (uZ tdue nT x1) (uZ tlat nT (x1 + x2)) (uZ twk nT x3) (nT + 1) edue elat ewk nE lenx_15 cntx_16 tin spx_11 pex_12 slp late srv hv av bd sh sc lt rule now stx_10 asl idlx_13 idnx_14 par div dee) H := hP
              have hD : va_D A (wP cI cJ cZ q pw co la vo cpar fr cdee use run nC (uZ tdue nT x1) (uZ tlat nT (x1 + x2)) (uZ twk nT x3) (nT + 1) edue elat ewk nE lenx_15 cntx_16 tin spx_11 pex_12 slp late srv hv av bd sh sc lt rule now stx_10 asl idlx_13 idnx_14 par div dee) := hD
              have hq9 := r_7
              refine lv_goto (tgt := 133) hx hb dL_sets_81 (by decide) ?_
              subst hQ
              exact zret_i (W1 := fun u9 : Int × Int × Int × (Int → Int) × Int × (Int → Int) × Int => wP cI cJ cZ q pw co la vo cpar fr cdee use run nC (uZ tdue nT x1) (uZ tlat nT (x1 + x2)) (uZ twk nT x3) (nT + 1) edue elat ewk nE (u9.2.2.2.2.2.1) (u9.2.2.2.2.2.2) tin (u9.2.1) (u9.2.2.1) slp late srv hv av bd sh sc lt rule now (u9.1) asl (u9.2.2.2.1) (u9.2.2.2.2.1) par div dee) (stx_10, spx_11, pex_12, idlx_13, idnx_14, lenx_15, cntx_16) hx hb hr hP hD hS hlocks dL_sets_133 (by exact ⟨rfl, hq9⟩)
          · skip
            exact absurd c_5 (by decide)
        · skip
          exact absurd c_4 (by decide)
      · skip
        exact absurd c_3 (by decide)
    · skip
      exact absurd c_2 (by decide)
  · skip
    exact absurd c_1 (by decide)
def rmL_sets_bad5a : Room := { frames := 7, cells := 1, slots := 6, locals := 152 }
set_option maxRecDepth 100000 in
set_option maxHeartbeats 4000000 in
theorem kL_sets_bad5a (l : Launch) (dC : Nat → ClassId) (dI : Nat → Nat → Nat) (cI cJ cZ : ClassId) (q : Nat → Nat)  (pw : Int → Int) (co : Int → Int) (la : Int → Int) (vo : Int → Int) (cpar : Int → Int) (fr : Int → Int) (cdee : Int → Int) (use : Int → Int) (run : Int → Int) (nC : Int) (tdue : Int → Int) (tlat : Int → Int) (twk : Int → Int) (nT : Int) (edue : Int → Int) (elat : Int → Int) (ewk : Int → Int) (nE : Int) (len : Int → Int) (cnt : Int) (tin : Int → Int) (sp : Int) (pe : Int) (slp : Int) (late : Int) (srv : Int) (hv : Int → Int) (av : Int) (bd : Int) (sh : Int) (sc : Int → Int) (lt : Int → Int) (rule : Int) (now : Int) (st : Int) (asl : Int) (idl : Int → Int) (idn : Int) (par : Int → Int) (div : Int → Int) (dee : Int → Int) (x1 x2 x3 : Int) (hx1 : zR x1) (hx2 : zR x2) (hx3 : zR x3) (hst : 0 ≤ st ∧ st ≤ 3) (hpw : rgZ pw 4 1000) (hco : rgZ co 4 10000) (hla : rgZ la 4 100) (hnow : 0 ≤ now ∧ now ≤ 200000) (hasl : 0 ≤ asl ∧ asl ≤ now) (hid : idR len cnt idl idn) (hnT : 0 ≤ nT ∧ nT ≤ 12) (hbad : ¬ ((now ≤ x1 ∧ x1 ≤ now + 1000) ∧ (0 ≤ x2 ∧ x2 ≤ 500) ∧ (1 ≤ x3 ∧ x3 ≤ 50))) : zMyi l yL_sets wsL_sets rmL_sets_bad5a (dC, dI) (zT cI cJ cZ) (wP cI cJ cZ q pw co la vo cpar fr cdee use run nC tdue tlat twk nT edue elat ewk nE len cnt tin sp pe slp late srv hv av bd sh sc lt rule now st asl idl idn par div dee) [.ref (q 0), .int (iI 5), .int (iI x1), .int (iI x2), .int (iI x3)] (fun (r9 : Int) (_ : Unit) => r9 = (-82)) (fun _ : Unit => wP cI cJ cZ q pw co la vo cpar fr cdee use run nC tdue tlat twk nT edue elat ewk nE len cnt tin sp pe slp late srv hv av bd sh sc lt rule now st asl idl idn par div dee) := by
  refine zenty_i (cc := cL_sets) (maxL := 6) (ret := (some .int)) (by decide +kernel) rfl (Nat.le_of_ble_eq_true rfl) ?_
  intro p e s m below meth c A ls htr htab hY hX hE hP hK hA hD hS hl
  obtain ⟨hx, hb, hr, hml, hown, hts, hlocks, hmn⟩ := hE
  have hinX7 : ∀ w ∈ u_ws RX7 TX7 13, w ∈ wsL_sets := by decide +kernel
  have hinX6 : ∀ w ∈ u_ws RX6 TX6 3, w ∈ wsL_sets := by decide +kernel
  have hinX4 : ∀ w ∈ u_ws RX4 TX4 6, w ∈ wsL_sets := by decide +kernel
  have hinX2 : ∀ w ∈ u_ws RX2 TX2 2, w ∈ wsL_sets := by decide +kernel
  have hinX1 : ∀ w ∈ u_ws RX1 TX1 6, w ∈ wsL_sets := by decide +kernel
  have hinX3 : ∀ w ∈ u_ws RX3 TX3 4, w ∈ wsL_sets := by decide +kernel
  have hinX0 : ∀ w ∈ u_ws RX0 TX0 4, w ∈ wsL_sets := by decide +kernel
  have hl : lv_has ls 6 [(0, .ref (q 0)), (1, .int (iI 5)), (2, .int (iI x1)), (3, .int (iI x2)), (4, .int (iI x3))] := hl
  refine z_gen (fun Q hQ => ?_)
  refine lv_iload_n hx hb dL_sets_0 rfl (lv_at hl 1 rfl) ?_
  refine zi_fne (tgt := 12) hx hb (by decide) dL_sets_1 (by decide) (fun c_1 => ?_) (fun c_1 => ?_)
  · skip
    refine lv_iload_n hx hb dL_sets_12 rfl (lv_at hl 1 rfl) ?_
    refine lv_iconst (v := iI 1) hx hb dL_sets_13 rfl ?_
    refine zi_cne (tgt := 26) hx hb (by decide) (by decide) dL_sets_14 (by decide) (fun c_2 => ?_) (fun c_2 => ?_)
    · skip
      refine lv_iload_n hx hb dL_sets_26 rfl (lv_at hl 1 rfl) ?_
      refine lv_iconst (v := iI 2) hx hb dL_sets_27 rfl ?_
      refine zi_cne (tgt := 42) hx hb (by decide) (by decide) dL_sets_28 (by decide) (fun c_3 => ?_) (fun c_3 => ?_)
      · skip
        refine lv_iload_n hx hb dL_sets_42 rfl (lv_at hl 1 rfl) ?_
        refine lv_iconst (v := iI 3) hx hb dL_sets_43 rfl ?_
        refine zi_cne (tgt := 55) hx hb (by decide) (by decide) dL_sets_44 (by decide) (fun c_4 => ?_) (fun c_4 => ?_)
        · skip
          refine lv_iload_n hx hb dL_sets_55 rfl (lv_at hl 1 rfl) ?_
          refine lv_iconst (v := iI 4) hx hb dL_sets_56 rfl ?_
          refine zi_cne (tgt := 68) hx hb (by decide) (by decide) dL_sets_57 (by decide) (fun c_5 => ?_) (fun c_5 => ?_)
          · skip
            refine lv_iload_n hx hb dL_sets_68 rfl (lv_at hl 1 rfl) ?_
            refine lv_iconst (v := iI 5) hx hb dL_sets_69 rfl ?_
            refine zi_cne (tgt := 84) hx hb (by decide) (by decide) dL_sets_70 (by decide) (fun c_6 => ?_) (fun c_6 => ?_)
            · skip
              exact absurd c_6 (by decide)
            · skip
              refine lv_aload_n hx hb dL_sets_73 rfl (lv_at hl 0 rfl) ?_
              refine lv_iload_n hx hb dL_sets_74 rfl (lv_at hl 2 rfl) ?_
              refine lv_iload_n hx hb dL_sets_75 rfl (lv_at hl 3 rfl) ?_
              refine lv_iload hx hb dL_sets_76 (lv_at hl 4 rfl) ?_
              refine zxc_i (vx_runV (As := [.int (iI x1), .int (iI x2), .int (iI x3)]) (rest := []) ⟨hx, hb, hml, hown, hts⟩ (kX7_schedule l dC dI cI cJ cZ q pw co la vo cpar fr cdee use run nC tdue tlat twk nT edue elat ewk nE len cnt tin sp pe slp late srv hv av bd sh sc lt rule now st asl idl idn par div dee x1 x2 x3 (by first | assumption | omega | exact b2i_01 _) (by first | assumption | omega | exact b2i_01 _) (by first | assumption | omega | exact b2i_01 _) (by first | assumption | omega | exact b2i_01 _) (by first | assumption | omega | exact b2i_01 _) (by first | assumption | omega | exact b2i_01 _) (by first | assumption | omega | exact b2i_01 _) (by first | assumption | omega | exact b2i_01 _) (by first | assumption | omega | exact b2i_01 _) (by first | assumption | omega | exact b2i_01 _) (by first | assumption | omega | exact b2i_01 _) htr s.heap.size) (cwV 3 hts gL_sets_X7_schedule rfl rfl rfl (by decide +kernel) ⟨Nat.le_of_ble_eq_true rfl, Nat.le_of_ble_eq_true rfl⟩) (zxV hX hS hA hK hP hD [0, 1, 2, 3, 4, 5, 6, 7, 8, 9, 10, 11, 12, 13, 14, 15, 16, 17, 18, 19, 20, 21, 22, 23, 24, 25, 26, 27, 28] rfl rfl 0 rfl rfl) rfl rfl hl.1 rfl (lv_room (Nat.le_of_ble_eq_true rfl)) dL_sets_78 ⟨Nat.le_of_ble_eq_true rfl, Nat.le_of_ble_eq_true rfl⟩) hP hD hS hA [0, 1, 2, 3, 4, 5, 6, 7, 8, 9, 10, 11, 12, 13, 14, 15, 16, 17, 18, 19, 20, 21, 22, 23, 24, 25, 26, 27, 28] [] rfl rfl rfl (by decide) (fun E_20 ce_18 q_19 H locs x_17 hP hD hS h71 h72 h73 => ?_) (fun v_9 u_8 H locs r_7 hP hD hS => ?_)
              · skip
                have hP : va_P (dC, dI) vwCl (wP cI cJ cZ q pw co la vo cpar fr cdee use run nC tdue tlat twk nT edue elat ewk nE len cnt tin sp pe slp late srv hv av bd sh sc lt rule now st asl idl idn par div dee) H := hP
                have hD : va_D A (wP cI cJ cZ q pw co la vo cpar fr cdee use run nC tdue tlat twk nT edue elat ewk nE len cnt tin sp pe slp late srv hv av bd sh sc lt rule now st asl idl idn par div dee) := hD
                rcases x_17 with ⟨rfl, hc9⟩ | ⟨rfl, hc9⟩
                · skip
                  refine vx_catch (own := RL) (name := xA) hown [⟨0, 133, 134, 43⟩] ⟨0, 133, 139, 45⟩ [⟨0, 133, 144, 47⟩] (by rw [htab]; rfl) (fun z hz => by (simp only [List.mem_cons, List.not_mem_nil, or_false] at hz); rcases hz with rfl; exact Or.inr ⟨by decide, xI, (hts _ (List.mem_of_getElem? (i := 1) rfl)), hY.1⟩) (by decide) (by decide) (hts _ (List.mem_of_getElem? (i := 2) rfl)) (va_Nw.use rfl (hX.1.1 xA (List.mem_of_getElem? (i := 0) rfl))) h71 h72 h73 ?_
                  refine lv_astore (lv' := [(5, .ref q_19), (0, .ref (q 0)), (1, .int (iI 5)), (2, .int (iI x1)), (3, .int (iI x2)), (4, .int (iI x3))]) hx hb dL_sets_139 hl (by decide) rfl (fun ls hl => ?_)
                  refine lv_bipush (v := iI (-82)) hx hb dL_sets_141 (by decide) ?_
                  subst hQ
                  refine W.widen (k := 1) (n := 6) (by decide) (by decide) ?_
                  exact zret_i (W1 := fun _ : Unit => wP cI cJ cZ q pw co la vo cpar fr cdee use run nC tdue tlat twk nT edue elat ewk nE len cnt tin sp pe slp late srv hv av bd sh sc lt rule now st asl idl idn par div dee) () hx hb hr hP hD hS hlocks dL_sets_143 (by exact rfl)
                · skip
                  exact absurd hc9.1 hbad
              obtain ⟨stx_10, spx_11, pex_12, idlx_13, idnx_14, lenx_15, cntx_16⟩ := u_8
              obtain ⟨v_21, r_7⟩ := r_7
              refine ze_i v_21 ?_
              have r_7 : (((now ≤ x1 ∧ x1 ≤ now + 1000) ∧ (0 ≤ x2 ∧ x2 ≤ 500) ∧ (1 ≤ x3 ∧ x3 ≤ 50)) ∧ nT < 12) ∧ (stx_10, spx_11, pex_12, idlx_13, idnx_14) = scF pw la st asl now sp pe idl idn ∧ idR lenx_15 cntx_16 idlx_13 idnx_14 := r_7
              exact absurd (r_7).1.1 hbad
          · skip
            exact absurd c_5 (by decide)
        · skip
          exact absurd c_4 (by decide)
      · skip
        exact absurd c_3 (by decide)
    · skip
      exact absurd c_2 (by decide)
  · skip
    exact absurd c_1 (by decide)
def rmL_sets_bad5s : Room := { frames := 7, cells := 1, slots := 6, locals := 152 }
set_option maxRecDepth 100000 in
set_option maxHeartbeats 4000000 in
theorem kL_sets_bad5s (l : Launch) (dC : Nat → ClassId) (dI : Nat → Nat → Nat) (cI cJ cZ : ClassId) (q : Nat → Nat)  (pw : Int → Int) (co : Int → Int) (la : Int → Int) (vo : Int → Int) (cpar : Int → Int) (fr : Int → Int) (cdee : Int → Int) (use : Int → Int) (run : Int → Int) (nC : Int) (tdue : Int → Int) (tlat : Int → Int) (twk : Int → Int) (nT : Int) (edue : Int → Int) (elat : Int → Int) (ewk : Int → Int) (nE : Int) (len : Int → Int) (cnt : Int) (tin : Int → Int) (sp : Int) (pe : Int) (slp : Int) (late : Int) (srv : Int) (hv : Int → Int) (av : Int) (bd : Int) (sh : Int) (sc : Int → Int) (lt : Int → Int) (rule : Int) (now : Int) (st : Int) (asl : Int) (idl : Int → Int) (idn : Int) (par : Int → Int) (div : Int → Int) (dee : Int → Int) (x1 x2 x3 : Int) (hx1 : zR x1) (hx2 : zR x2) (hx3 : zR x3) (hst : 0 ≤ st ∧ st ≤ 3) (hpw : rgZ pw 4 1000) (hco : rgZ co 4 10000) (hla : rgZ la 4 100) (hnow : 0 ≤ now ∧ now ≤ 200000) (hasl : 0 ≤ asl ∧ asl ≤ now) (hid : idR len cnt idl idn) (hnT : 0 ≤ nT ∧ nT ≤ 12) (hbad : ((now ≤ x1 ∧ x1 ≤ now + 1000) ∧ (0 ≤ x2 ∧ x2 ≤ 500) ∧ (1 ≤ x3 ∧ x3 ≤ 50)) ∧ ¬ nT < 12) : zMyi l yL_sets wsL_sets rmL_sets_bad5s (dC, dI) (zT cI cJ cZ) (wP cI cJ cZ q pw co la vo cpar fr cdee use run nC tdue tlat twk nT edue elat ewk nE len cnt tin sp pe slp late srv hv av bd sh sc lt rule now st asl idl idn par div dee) [.ref (q 0), .int (iI 5), .int (iI x1), .int (iI x2), .int (iI x3)] (fun (r9 : Int) (_ : Unit) => r9 = (-83)) (fun _ : Unit => wP cI cJ cZ q pw co la vo cpar fr cdee use run nC tdue tlat twk nT edue elat ewk nE len cnt tin sp pe slp late srv hv av bd sh sc lt rule now st asl idl idn par div dee) := by
  refine zenty_i (cc := cL_sets) (maxL := 6) (ret := (some .int)) (by decide +kernel) rfl (Nat.le_of_ble_eq_true rfl) ?_
  intro p e s m below meth c A ls htr htab hY hX hE hP hK hA hD hS hl
  obtain ⟨hx, hb, hr, hml, hown, hts, hlocks, hmn⟩ := hE
  have hinX7 : ∀ w ∈ u_ws RX7 TX7 13, w ∈ wsL_sets := by decide +kernel
  have hinX6 : ∀ w ∈ u_ws RX6 TX6 3, w ∈ wsL_sets := by decide +kernel
  have hinX4 : ∀ w ∈ u_ws RX4 TX4 6, w ∈ wsL_sets := by decide +kernel
  have hinX2 : ∀ w ∈ u_ws RX2 TX2 2, w ∈ wsL_sets := by decide +kernel
  have hinX1 : ∀ w ∈ u_ws RX1 TX1 6, w ∈ wsL_sets := by decide +kernel
  have hinX3 : ∀ w ∈ u_ws RX3 TX3 4, w ∈ wsL_sets := by decide +kernel
  have hinX0 : ∀ w ∈ u_ws RX0 TX0 4, w ∈ wsL_sets := by decide +kernel
  have hl : lv_has ls 6 [(0, .ref (q 0)), (1, .int (iI 5)), (2, .int (iI x1)), (3, .int (iI x2)), (4, .int (iI x3))] := hl
  refine z_gen (fun Q hQ => ?_)
  refine lv_iload_n hx hb dL_sets_0 rfl (lv_at hl 1 rfl) ?_
  refine zi_fne (tgt := 12) hx hb (by decide) dL_sets_1 (by decide) (fun c_1 => ?_) (fun c_1 => ?_)
  · skip
    refine lv_iload_n hx hb dL_sets_12 rfl (lv_at hl 1 rfl) ?_
    refine lv_iconst (v := iI 1) hx hb dL_sets_13 rfl ?_
    refine zi_cne (tgt := 26) hx hb (by decide) (by decide) dL_sets_14 (by decide) (fun c_2 => ?_) (fun c_2 => ?_)
    · skip
      refine lv_iload_n hx hb dL_sets_26 rfl (lv_at hl 1 rfl) ?_
      refine lv_iconst (v := iI 2) hx hb dL_sets_27 rfl ?_
      refine zi_cne (tgt := 42) hx hb (by decide) (by decide) dL_sets_28 (by decide) (fun c_3 => ?_) (fun c_3 => ?_)
      · skip
        refine lv_iload_n hx hb dL_sets_42 rfl (lv_at hl 1 rfl) ?_
        refine lv_iconst (v := iI 3) hx hb dL_sets_43 rfl ?_
        refine zi_cne (tgt := 55) hx hb (by decide) (by decide) dL_sets_44 (by decide) (fun c_4 => ?_) (fun c_4 => ?_)
        · skip
          refine lv_iload_n hx hb dL_sets_55 rfl (lv_at hl 1 rfl) ?_
          refine lv_iconst (v := iI 4) hx hb dL_sets_56 rfl ?_
          refine zi_cne (tgt := 68) hx hb (by decide) (by decide) dL_sets_57 (by decide) (fun c_5 => ?_) (fun c_5 => ?_)
          · skip
            refine lv_iload_n hx hb dL_sets_68 rfl (lv_at hl 1 rfl) ?_
            refine lv_iconst (v := iI 5) hx hb dL_sets_69 rfl ?_
            refine zi_cne (tgt := 84) hx hb (by decide) (by decide) dL_sets_70 (by decide) (fun c_6 => ?_) (fun c_6 => ?_)
            · skip
              exact absurd c_6 (by decide)
            · skip
              refine lv_aload_n hx hb dL_sets_73 rfl (lv_at hl 0 rfl) ?_
              refine lv_iload_n hx hb dL_sets_74 rfl (lv_at hl 2 rfl) ?_
              refine lv_iload_n hx hb dL_sets_75 rfl (lv_at hl 3 rfl) ?_
              refine lv_iload hx hb dL_sets_76 (lv_at hl 4 rfl) ?_
              refine zxc_i (vx_runV (As := [.int (iI x1), .int (iI x2), .int (iI x3)]) (rest := []) ⟨hx, hb, hml, hown, hts⟩ (kX7_schedule l dC dI cI cJ cZ q pw co la vo cpar fr cdee use run nC tdue tlat twk nT edue elat ewk nE len cnt tin sp pe slp late srv hv av bd sh sc lt rule now st asl idl idn par div dee x1 x2 x3 (by first | assumption | omega | exact b2i_01 _) (by first | assumption | omega | exact b2i_01 _) (by first | assumption | omega | exact b2i_01 _) (by first | assumption | omega | exact b2i_01 _) (by first | assumption | omega | exact b2i_01 _) (by first | assumption | omega | exact b2i_01 _) (by first | assumption | omega | exact b2i_01 _) (by first | assumption | omega | exact b2i_01 _) (by first | assumption | omega | exact b2i_01 _) (by first | assumption | omega | exact b2i_01 _) (by first | assumption | omega | exact b2i_01 _) htr s.heap.size) (cwV 3 hts gL_sets_X7_schedule rfl rfl rfl (by decide +kernel) ⟨Nat.le_of_ble_eq_true rfl, Nat.le_of_ble_eq_true rfl⟩) (zxV hX hS hA hK hP hD [0, 1, 2, 3, 4, 5, 6, 7, 8, 9, 10, 11, 12, 13, 14, 15, 16, 17, 18, 19, 20, 21, 22, 23, 24, 25, 26, 27, 28] rfl rfl 0 rfl rfl) rfl rfl hl.1 rfl (lv_room (Nat.le_of_ble_eq_true rfl)) dL_sets_78 ⟨Nat.le_of_ble_eq_true rfl, Nat.le_of_ble_eq_true rfl⟩) hP hD hS hA [0, 1, 2, 3, 4, 5, 6, 7, 8, 9, 10, 11, 12, 13, 14, 15, 16, 17, 18, 19, 20, 21, 22, 23, 24, 25, 26, 27, 28] [] rfl rfl rfl (by decide) (fun E_20 ce_18 q_19 H locs x_17 hP hD hS h71 h72 h73 => ?_) (fun v_9 u_8 H locs r_7 hP hD hS => ?_)
              · skip
                have hP : va_P (dC, dI) vwCl (wP cI cJ cZ q pw co la vo cpar fr cdee use run nC tdue tlat twk nT edue elat ewk nE len cnt tin sp pe slp late srv hv av bd sh sc lt rule now st asl idl idn par div dee) H := hP
                have hD : va_D A (wP cI cJ cZ q pw co la vo cpar fr cdee use run nC tdue tlat twk nT edue elat ewk nE len cnt tin sp pe slp late srv hv av bd sh sc lt rule now st asl idl idn par div dee) := hD
                rcases x_17 with ⟨rfl, hc9⟩ | ⟨rfl, hc9⟩
                · skip
                  exact absurd hbad.1 hc9
                · skip
                  refine vx_catch (own := RL) (name := xS) hown [⟨0, 133, 134, 43⟩, ⟨0, 133, 139, 45⟩] ⟨0, 133, 144, 47⟩ [] (by rw [htab]; rfl) (fun z hz => by (simp only [List.mem_cons, List.not_mem_nil, or_false] at hz); rcases hz with rfl | rfl; exact Or.inr ⟨by decide, xI, (hts _ (List.mem_of_getElem? (i := 1) rfl)), hY.2.1⟩; exact Or.inr ⟨by decide, xA, (hts _ (List.mem_of_getElem? (i := 2) rfl)), hY.2.2⟩) (by decide) (by decide) (hts _ (List.mem_of_getElem? (i := 3) rfl)) (va_Nw.use rfl (hX.1.1 xS (List.mem_of_getElem? (i := 2) rfl))) h71 h72 h73 ?_
                  refine lv_astore (lv' := [(5, .ref q_19), (0, .ref (q 0)), (1, .int (iI 5)), (2, .int (iI x1)), (3, .int (iI x2)), (4, .int (iI x3))]) hx hb dL_sets_144 hl (by decide) rfl (fun ls hl => ?_)
                  refine lv_bipush (v := iI (-83)) hx hb dL_sets_146 (by decide) ?_
                  subst hQ
                  refine W.widen (k := 1) (n := 6) (by decide) (by decide) ?_
                  exact zret_i (W1 := fun _ : Unit => wP cI cJ cZ q pw co la vo cpar fr cdee use run nC tdue tlat twk nT edue elat ewk nE len cnt tin sp pe slp late srv hv av bd sh sc lt rule now st asl idl idn par div dee) () hx hb hr hP hD hS hlocks dL_sets_148 (by exact rfl)
              obtain ⟨stx_10, spx_11, pex_12, idlx_13, idnx_14, lenx_15, cntx_16⟩ := u_8
              obtain ⟨v_21, r_7⟩ := r_7
              refine ze_i v_21 ?_
              have r_7 : (((now ≤ x1 ∧ x1 ≤ now + 1000) ∧ (0 ≤ x2 ∧ x2 ≤ 500) ∧ (1 ≤ x3 ∧ x3 ≤ 50)) ∧ nT < 12) ∧ (stx_10, spx_11, pex_12, idlx_13, idnx_14) = scF pw la st asl now sp pe idl idn ∧ idR lenx_15 cntx_16 idlx_13 idnx_14 := r_7
              exact absurd (r_7).1.2 hbad.2
          · skip
            exact absurd c_5 (by decide)
        · skip
          exact absurd c_4 (by decide)
      · skip
        exact absurd c_3 (by decide)
    · skip
      exact absurd c_2 (by decide)
  · skip
    exact absurd c_1 (by decide)
def rmL_sets_ok6 : Room := { frames := 7, cells := 0, slots := 0, locals := 152 }
set_option maxRecDepth 100000 in
set_option maxHeartbeats 4000000 in
theorem kL_sets_ok6 (l : Launch) (dC : Nat → ClassId) (dI : Nat → Nat → Nat) (cI cJ cZ : ClassId) (q : Nat → Nat)  (pw : Int → Int) (co : Int → Int) (la : Int → Int) (vo : Int → Int) (cpar : Int → Int) (fr : Int → Int) (cdee : Int → Int) (use : Int → Int) (run : Int → Int) (nC : Int) (tdue : Int → Int) (tlat : Int → Int) (twk : Int → Int) (nT : Int) (edue : Int → Int) (elat : Int → Int) (ewk : Int → Int) (nE : Int) (len : Int → Int) (cnt : Int) (tin : Int → Int) (sp : Int) (pe : Int) (slp : Int) (late : Int) (srv : Int) (hv : Int → Int) (av : Int) (bd : Int) (sh : Int) (sc : Int → Int) (lt : Int → Int) (rule : Int) (now : Int) (st : Int) (asl : Int) (idl : Int → Int) (idn : Int) (par : Int → Int) (div : Int → Int) (dee : Int → Int) (x1 x2 : Int) (hx1 : zR x1) (hx2 : zR x2) (hnE : 0 ≤ nE ∧ nE ≤ 12) (hnow : 0 ≤ now ∧ now ≤ 200000) (hok : ((now ≤ x1 ∧ x1 ≤ now + 1000) ∧ (1 ≤ x2 ∧ x2 ≤ 50)) ∧ nE < 12) : zMi l yL_sets wsL_sets rmL_sets_ok6 (dC, dI) (zT cI cJ cZ) (wP cI cJ cZ q pw co la vo cpar fr cdee use run nC tdue tlat twk nT edue elat ewk nE len cnt tin sp pe slp late srv hv av bd sh sc lt rule now st asl idl idn par div dee) [.ref (q 0), .int (iI 6), .int (iI x1), .int (iI x2), .int (iI 0)] (fun (r9 : Int) (_ : Unit) => r9 = nE + 1) (fun _ : Unit => wP cI cJ cZ q pw co la vo cpar fr cdee use run nC tdue tlat twk nT (uZ edue nE x1) (uZ elat nE x1) (uZ ewk nE x2) (nE + 1) len cnt tin sp pe slp late srv hv av bd sh sc lt rule now st asl idl idn par div dee) 0 0 := by
  refine zentu_i (cc := cL_sets) (maxL := 6) (ret := (some .int)) (by decide +kernel) rfl (Nat.le_of_ble_eq_true rfl) ?_
  intro p e s m below meth c A ls hE hP hK hA hD hS hl
  obtain ⟨hx, hb, hr, hml, hown, hts, hlocks, hmn⟩ := hE
  have hinX7 : ∀ w ∈ u_ws RX7 TX7 13, w ∈ wsL_sets := by decide +kernel
  have hinX6 : ∀ w ∈ u_ws RX6 TX6 3, w ∈ wsL_sets := by decide +kernel
  have hinX4 : ∀ w ∈ u_ws RX4 TX4 6, w ∈ wsL_sets := by decide +kernel
  have hinX2 : ∀ w ∈ u_ws RX2 TX2 2, w ∈ wsL_sets := by decide +kernel
  have hinX1 : ∀ w ∈ u_ws RX1 TX1 6, w ∈ wsL_sets := by decide +kernel
  have hinX3 : ∀ w ∈ u_ws RX3 TX3 4, w ∈ wsL_sets := by decide +kernel
  have hinX0 : ∀ w ∈ u_ws RX0 TX0 4, w ∈ wsL_sets := by decide +kernel
  have hl : lv_has ls 6 [(0, .ref (q 0)), (1, .int (iI 6)), (2, .int (iI x1)), (3, .int (iI x2)), (4, .int (iI 0))] := hl
  refine z_gen (fun Q hQ => ?_)
  refine lv_iload_n hx hb dL_sets_0 rfl (lv_at hl 1 rfl) ?_
  refine zi_fne (tgt := 12) hx hb (by decide) dL_sets_1 (by decide) (fun c_1 => ?_) (fun c_1 => ?_)
  · skip
    refine lv_iload_n hx hb dL_sets_12 rfl (lv_at hl 1 rfl) ?_
    refine lv_iconst (v := iI 1) hx hb dL_sets_13 rfl ?_
    refine zi_cne (tgt := 26) hx hb (by decide) (by decide) dL_sets_14 (by decide) (fun c_2 => ?_) (fun c_2 => ?_)
    · skip
      refine lv_iload_n hx hb dL_sets_26 rfl (lv_at hl 1 rfl) ?_
      refine lv_iconst (v := iI 2) hx hb dL_sets_27 rfl ?_
      refine zi_cne (tgt := 42) hx hb (by decide) (by decide) dL_sets_28 (by decide) (fun c_3 => ?_) (fun c_3 => ?_)
      · skip
        refine lv_iload_n hx hb dL_sets_42 rfl (lv_at hl 1 rfl) ?_
        refine lv_iconst (v := iI 3) hx hb dL_sets_43 rfl ?_
        refine zi_cne (tgt := 55) hx hb (by decide) (by decide) dL_sets_44 (by decide) (fun c_4 => ?_) (fun c_4 => ?_)
        · skip
          refine lv_iload_n hx hb dL_sets_55 rfl (lv_at hl 1 rfl) ?_
          refine lv_iconst (v := iI 4) hx hb dL_sets_56 rfl ?_
          refine zi_cne (tgt := 68) hx hb (by decide) (by decide) dL_sets_57 (by decide) (fun c_5 => ?_) (fun c_5 => ?_)
          · skip
            refine lv_iload_n hx hb dL_sets_68 rfl (lv_at hl 1 rfl) ?_
            refine lv_iconst (v := iI 5) hx hb dL_sets_69 rfl ?_
            refine zi_cne (tgt := 84) hx hb (by decide) (by decide) dL_sets_70 (by decide) (fun c_6 => ?_) (fun c_6 => ?_)
            · skip
              refine lv_iload_n hx hb dL_sets_84 rfl (lv_at hl 1 rfl) ?_
              refine lv_bipush (v := iI 6) hx hb dL_sets_85 (by decide) ?_
              refine zi_cne (tgt := 99) hx hb (by decide) (by decide) dL_sets_87 (by decide) (fun c_7 => ?_) (fun c_7 => ?_)
              · skip
                exact absurd c_7 (by decide)
              · skip
                refine lv_aload_n hx hb dL_sets_90 rfl (lv_at hl 0 rfl) ?_
                refine lv_iload_n hx hb dL_sets_91 rfl (lv_at hl 2 rfl) ?_
                refine lv_iload_n hx hb dL_sets_92 rfl (lv_at hl 3 rfl) ?_
                refine zc_i (va_runV (As := [.int (iI x1), .int (iI x2)]) (rest := []) ⟨hx, hb, hml, hown, hts⟩ (kX7_addEvent_ok l dC dI cI cJ cZ q pw co la vo cpar fr cdee use run nC tdue tlat twk nT edue elat ewk nE len cnt tin sp pe slp late srv hv av bd sh sc lt rule now st asl idl idn par div dee x1 x2 (by first | assumption | omega | exact b2i_01 _) (by first | assumption | omega | exact b2i_01 _) (by first | assumption | omega | exact b2i_01 _) (by first | assumption | omega | exact b2i_01 _) (by first | assumption | omega | exact b2i_01 _) s.heap.size) (cwV 2 hts gL_sets_X7_addEvent rfl rfl rfl (by decide +kernel) ⟨Nat.le_of_ble_eq_true rfl, Nat.le_of_ble_eq_true rfl⟩) (zpV hK hP hD [0, 1, 2, 3, 4, 5, 6, 7, 8, 9, 10, 11, 12, 13, 14, 15, 16, 17, 18, 19, 20, 21, 22, 23, 24, 25, 26, 27, 28] rfl rfl 0 rfl rfl) rfl rfl hl.1 rfl (lv_room (Nat.le_of_ble_eq_true rfl)) dL_sets_93 ⟨Nat.le_of_ble_eq_true rfl, Nat.le_of_ble_eq_true rfl⟩) hP hD hS hA [0, 1, 2, 3, 4, 5, 6, 7, 8, 9, 10, 11, 12, 13, 14, 15, 16, 17, 18, 19, 20, 21, 22, 23, 24, 25, 26, 27, 28] [] rfl rfl rfl (by decide) (fun v_10 u_9 H locs r_8 hP hD hS => ?_)
                refine ze_i r_8 ?_
                have hP : va_P (dC, dI) vwCl (wP cI cJ cZ q pw co la vo cpar fr cdee use run nC tdue tlat twk nT (uZ edue nE x1) (uZ elat nE x1) (uZ ewk nE x2) (nE + 1) len cnt tin sp pe slp late srv hv av bd sh sc lt rule now st asl idl idn par div dee) H := hP
                have hD : va_D A (wP cI cJ cZ q pw co la vo cpar fr cdee use run nC tdue tlat twk nT (uZ edue nE x1) (uZ elat nE x1) (uZ ewk nE x2) (nE + 1) len cnt tin sp pe slp late srv hv av bd sh sc lt rule now st asl idl idn par div dee) := hD
                refine lv_goto (tgt := 133) hx hb dL_sets_96 (by decide) ?_
                subst hQ
                exact zret_i (W1 := fun _ : Unit => wP cI cJ cZ q pw co la vo cpar fr cdee use run nC tdue tlat twk nT (uZ edue nE x1) (uZ elat nE x1) (uZ ewk nE x2) (nE + 1) len cnt tin sp pe slp late srv hv av bd sh sc lt rule now st asl idl idn par div dee) () hx hb hr hP hD hS hlocks dL_sets_133 (by exact rfl)
            · skip
              exact absurd c_6 (by decide)
          · skip
            exact absurd c_5 (by decide)
        · skip
          exact absurd c_4 (by decide)
      · skip
        exact absurd c_3 (by decide)
    · skip
      exact absurd c_2 (by decide)
  · skip
    exact absurd c_1 (by decide)
def rmL_sets_bad6a : Room := { frames := 7, cells := 1, slots := 6, locals := 152 }
set_option maxRecDepth 100000 in
set_option maxHeartbeats 4000000 in
theorem kL_sets_bad6a (l : Launch) (dC : Nat → ClassId) (dI : Nat → Nat → Nat) (cI cJ cZ : ClassId) (q : Nat → Nat)  (pw : Int → Int) (co : Int → Int) (la : Int → Int) (vo : Int → Int) (cpar : Int → Int) (fr : Int → Int) (cdee : Int → Int) (use : Int → Int) (run : Int → Int) (nC : Int) (tdue : Int → Int) (tlat : Int → Int) (twk : Int → Int) (nT : Int) (edue : Int → Int) (elat : Int → Int) (ewk : Int → Int) (nE : Int) (len : Int → Int) (cnt : Int) (tin : Int → Int) (sp : Int) (pe : Int) (slp : Int) (late : Int) (srv : Int) (hv : Int → Int) (av : Int) (bd : Int) (sh : Int) (sc : Int → Int) (lt : Int → Int) (rule : Int) (now : Int) (st : Int) (asl : Int) (idl : Int → Int) (idn : Int) (par : Int → Int) (div : Int → Int) (dee : Int → Int) (x1 x2 : Int) (hx1 : zR x1) (hx2 : zR x2) (hnE : 0 ≤ nE ∧ nE ≤ 12) (hnow : 0 ≤ now ∧ now ≤ 200000) (hbad : ¬ ((now ≤ x1 ∧ x1 ≤ now + 1000) ∧ (1 ≤ x2 ∧ x2 ≤ 50))) : zMyi l yL_sets wsL_sets rmL_sets_bad6a (dC, dI) (zT cI cJ cZ) (wP cI cJ cZ q pw co la vo cpar fr cdee use run nC tdue tlat twk nT edue elat ewk nE len cnt tin sp pe slp late srv hv av bd sh sc lt rule now st asl idl idn par div dee) [.ref (q 0), .int (iI 6), .int (iI x1), .int (iI x2), .int (iI 0)] (fun (r9 : Int) (_ : Unit) => r9 = (-82)) (fun _ : Unit => wP cI cJ cZ q pw co la vo cpar fr cdee use run nC tdue tlat twk nT edue elat ewk nE len cnt tin sp pe slp late srv hv av bd sh sc lt rule now st asl idl idn par div dee) := by
  refine zenty_i (cc := cL_sets) (maxL := 6) (ret := (some .int)) (by decide +kernel) rfl (Nat.le_of_ble_eq_true rfl) ?_
  intro p e s m below meth c A ls htr htab hY hX hE hP hK hA hD hS hl
  obtain ⟨hx, hb, hr, hml, hown, hts, hlocks, hmn⟩ := hE
  have hinX7 : ∀ w ∈ u_ws RX7 TX7 13, w ∈ wsL_sets := by decide +kernel
  have hinX6 : ∀ w ∈ u_ws RX6 TX6 3, w ∈ wsL_sets := by decide +kernel
  have hinX4 : ∀ w ∈ u_ws RX4 TX4 6, w ∈ wsL_sets := by decide +kernel
  have hinX2 : ∀ w ∈ u_ws RX2 TX2 2, w ∈ wsL_sets := by decide +kernel
  have hinX1 : ∀ w ∈ u_ws RX1 TX1 6, w ∈ wsL_sets := by decide +kernel
  have hinX3 : ∀ w ∈ u_ws RX3 TX3 4, w ∈ wsL_sets := by decide +kernel
  have hinX0 : ∀ w ∈ u_ws RX0 TX0 4, w ∈ wsL_sets := by decide +kernel
  have hl : lv_has ls 6 [(0, .ref (q 0)), (1, .int (iI 6)), (2, .int (iI x1)), (3, .int (iI x2)), (4, .int (iI 0))] := hl
  refine z_gen (fun Q hQ => ?_)
  refine lv_iload_n hx hb dL_sets_0 rfl (lv_at hl 1 rfl) ?_
  refine zi_fne (tgt := 12) hx hb (by decide) dL_sets_1 (by decide) (fun c_1 => ?_) (fun c_1 => ?_)
  · skip
    refine lv_iload_n hx hb dL_sets_12 rfl (lv_at hl 1 rfl) ?_
    refine lv_iconst (v := iI 1) hx hb dL_sets_13 rfl ?_
    refine zi_cne (tgt := 26) hx hb (by decide) (by decide) dL_sets_14 (by decide) (fun c_2 => ?_) (fun c_2 => ?_)
    · skip
      refine lv_iload_n hx hb dL_sets_26 rfl (lv_at hl 1 rfl) ?_
      refine lv_iconst (v := iI 2) hx hb dL_sets_27 rfl ?_
      refine zi_cne (tgt := 42) hx hb (by decide) (by decide) dL_sets_28 (by decide) (fun c_3 => ?_) (fun c_3 => ?_)
      · skip
        refine lv_iload_n hx hb dL_sets_42 rfl (lv_at hl 1 rfl) ?_
        refine lv_iconst (v := iI 3) hx hb dL_sets_43 rfl ?_
        refine zi_cne (tgt := 55) hx hb (by decide) (by decide) dL_sets_44 (by decide) (fun c_4 => ?_) (fun c_4 => ?_)
        · skip
          refine lv_iload_n hx hb dL_sets_55 rfl (lv_at hl 1 rfl) ?_
          refine lv_iconst (v := iI 4) hx hb dL_sets_56 rfl ?_
          refine zi_cne (tgt := 68) hx hb (by decide) (by decide) dL_sets_57 (by decide) (fun c_5 => ?_) (fun c_5 => ?_)
          · skip
            refine lv_iload_n hx hb dL_sets_68 rfl (lv_at hl 1 rfl) ?_
            refine lv_iconst (v := iI 5) hx hb dL_sets_69 rfl ?_
            refine zi_cne (tgt := 84) hx hb (by decide) (by decide) dL_sets_70 (by decide) (fun c_6 => ?_) (fun c_6 => ?_)
            · skip
              refine lv_iload_n hx hb dL_sets_84 rfl (lv_at hl 1 rfl) ?_
              refine lv_bipush (v := iI 6) hx hb dL_sets_85 (by decide) ?_
              refine zi_cne (tgt := 99) hx hb (by decide) (by decide) dL_sets_87 (by decide) (fun c_7 => ?_) (fun c_7 => ?_)
              · skip
                exact absurd c_7 (by decide)
              · skip
                refine lv_aload_n hx hb dL_sets_90 rfl (lv_at hl 0 rfl) ?_
                refine lv_iload_n hx hb dL_sets_91 rfl (lv_at hl 2 rfl) ?_
                refine lv_iload_n hx hb dL_sets_92 rfl (lv_at hl 3 rfl) ?_
                refine zxc_i (vx_runV (As := [.int (iI x1), .int (iI x2)]) (rest := []) ⟨hx, hb, hml, hown, hts⟩ (kX7_addEvent l dC dI cI cJ cZ q pw co la vo cpar fr cdee use run nC tdue tlat twk nT edue elat ewk nE len cnt tin sp pe slp late srv hv av bd sh sc lt rule now st asl idl idn par div dee x1 x2 (by first | assumption | omega | exact b2i_01 _) (by first | assumption | omega | exact b2i_01 _) (by first | assumption | omega | exact b2i_01 _) (by first | assumption | omega | exact b2i_01 _) htr s.heap.size) (cwV 2 hts gL_sets_X7_addEvent rfl rfl rfl (by decide +kernel) ⟨Nat.le_of_ble_eq_true rfl, Nat.le_of_ble_eq_true rfl⟩) (zxV hX hS hA hK hP hD [0, 1, 2, 3, 4, 5, 6, 7, 8, 9, 10, 11, 12, 13, 14, 15, 16, 17, 18, 19, 20, 21, 22, 23, 24, 25, 26, 27, 28] rfl rfl 0 rfl rfl) rfl rfl hl.1 rfl (lv_room (Nat.le_of_ble_eq_true rfl)) dL_sets_93 ⟨Nat.le_of_ble_eq_true rfl, Nat.le_of_ble_eq_true rfl⟩) hP hD hS hA [0, 1, 2, 3, 4, 5, 6, 7, 8, 9, 10, 11, 12, 13, 14, 15, 16, 17, 18, 19, 20, 21, 22, 23, 24, 25, 26, 27, 28] [] rfl rfl rfl (by decide) (fun E_14 ce_12 q_13 H locs x_11 hP hD hS h71 h72 h73 => ?_) (fun v_10 u_9 H locs r_8 hP hD hS => ?_)
                · skip
                  have hP : va_P (dC, dI) vwCl (wP cI cJ cZ q pw co la vo cpar fr cdee use run nC tdue tlat twk nT edue elat ewk nE len cnt tin sp pe slp late srv hv av bd sh sc lt rule now st asl idl idn par div dee) H := hP
                  have hD : va_D A (wP cI cJ cZ q pw co la vo cpar fr cdee use run nC tdue tlat twk nT edue elat ewk nE len cnt tin sp pe slp late srv hv av bd sh sc lt rule now st asl idl idn par div dee) := hD
                  rcases x_11 with ⟨rfl, hc9⟩ | ⟨rfl, hc9⟩
                  · skip
                    refine vx_catch (own := RL) (name := xA) hown [⟨0, 133, 134, 43⟩] ⟨0, 133, 139, 45⟩ [⟨0, 133, 144, 47⟩] (by rw [htab]; rfl) (fun z hz => by (simp only [List.mem_cons, List.not_mem_nil, or_false] at hz); rcases hz with rfl; exact Or.inr ⟨by decide, xI, (hts _ (List.mem_of_getElem? (i := 1) rfl)), hY.1⟩) (by decide) (by decide) (hts _ (List.mem_of_getElem? (i := 2) rfl)) (va_Nw.use rfl (hX.1.1 xA (List.mem_of_getElem? (i := 0) rfl))) h71 h72 h73 ?_
                    refine lv_astore (lv' := [(5, .ref q_13), (0, .ref (q 0)), (1, .int (iI 6)), (2, .int (iI x1)), (3, .int (iI x2)), (4, .int (iI 0))]) hx hb dL_sets_139 hl (by decide) rfl (fun ls hl => ?_)
                    refine lv_bipush (v := iI (-82)) hx hb dL_sets_141 (by decide) ?_
                    subst hQ
                    refine W.widen (k := 1) (n := 6) (by decide) (by decide) ?_
                    exact zret_i (W1 := fun _ : Unit => wP cI cJ cZ q pw co la vo cpar fr cdee use run nC tdue tlat twk nT edue elat ewk nE len cnt tin sp pe slp late srv hv av bd sh sc lt rule now st asl idl idn par div dee) () hx hb hr hP hD hS hlocks dL_sets_143 (by exact rfl)
                  · skip
                    exact absurd hc9.1 hbad
                obtain ⟨v_15, r_8⟩ := r_8
                refine ze_i v_15 ?_
                have r_8 : (((now ≤ x1 ∧ x1 ≤ now + 1000) ∧ (1 ≤ x2 ∧ x2 ≤ 50)) ∧ nE < 12) := r_8
                exact absurd (r_8).1 hbad
            · skip
              exact absurd c_6 (by decide)
          · skip
            exact absurd c_5 (by decide)
        · skip
          exact absurd c_4 (by decide)
      · skip
        exact absurd c_3 (by decide)
    · skip
      exact absurd c_2 (by decide)
  · skip
    exact absurd c_1 (by decide)
def rmL_sets_bad6s : Room := { frames := 7, cells := 1, slots := 6, locals := 152 }
set_option maxRecDepth 100000 in
set_option maxHeartbeats 4000000 in
theorem kL_sets_bad6s (l : Launch) (dC : Nat → ClassId) (dI : Nat → Nat → Nat) (cI cJ cZ : ClassId) (q : Nat → Nat)  (pw : Int → Int) (co : Int → Int) (la : Int → Int) (vo : Int → Int) (cpar : Int → Int) (fr : Int → Int) (cdee : Int → Int) (use : Int → Int) (run : Int → Int) (nC : Int) (tdue : Int → Int) (tlat : Int → Int) (twk : Int → Int) (nT : Int) (edue : Int → Int) (elat : Int → Int) (ewk : Int → Int) (nE : Int) (len : Int → Int) (cnt : Int) (tin : Int → Int) (sp : Int) (pe : Int) (slp : Int) (late : Int) (srv : Int) (hv : Int → Int) (av : Int) (bd : Int) (sh : Int) (sc : Int → Int) (lt : Int → Int) (rule : Int) (now : Int) (st : Int) (asl : Int) (idl : Int → Int) (idn : Int) (par : Int → Int) (div : Int → Int) (dee : Int → Int) (x1 x2 : Int) (hx1 : zR x1) (hx2 : zR x2) (hnE : 0 ≤ nE ∧ nE ≤ 12) (hnow : 0 ≤ now ∧ now ≤ 200000) (hbad : ((now ≤ x1 ∧ x1 ≤ now + 1000) ∧ (1 ≤ x2 ∧ x2 ≤ 50)) ∧ ¬ nE < 12) : zMyi l yL_sets wsL_sets rmL_sets_bad6s (dC, dI) (zT cI cJ cZ) (wP cI cJ cZ q pw co la vo cpar fr cdee use run nC tdue tlat twk nT edue elat ewk nE len cnt tin sp pe slp late srv hv av bd sh sc lt rule now st asl idl idn par div dee) [.ref (q 0), .int (iI 6), .int (iI x1), .int (iI x2), .int (iI 0)] (fun (r9 : Int) (_ : Unit) => r9 = (-83)) (fun _ : Unit => wP cI cJ cZ q pw co la vo cpar fr cdee use run nC tdue tlat twk nT edue elat ewk nE len cnt tin sp pe slp late srv hv av bd sh sc lt rule now st asl idl idn par div dee) := by
  refine zenty_i (cc := cL_sets) (maxL := 6) (ret := (some .int)) (by decide +kernel) rfl (Nat.le_of_ble_eq_true rfl) ?_
  intro p e s m below meth c A ls htr htab hY hX hE hP hK hA hD hS hl
  obtain ⟨hx, hb, hr, hml, hown, hts, hlocks, hmn⟩ := hE
  have hinX7 : ∀ w ∈ u_ws RX7 TX7 13, w ∈ wsL_sets := by decide +kernel
  have hinX6 : ∀ w ∈ u_ws RX6 TX6 3, w ∈ wsL_sets := by decide +kernel
  have hinX4 : ∀ w ∈ u_ws RX4 TX4 6, w ∈ wsL_sets := by decide +kernel
  have hinX2 : ∀ w ∈ u_ws RX2 TX2 2, w ∈ wsL_sets := by decide +kernel
  have hinX1 : ∀ w ∈ u_ws RX1 TX1 6, w ∈ wsL_sets := by decide +kernel
  have hinX3 : ∀ w ∈ u_ws RX3 TX3 4, w ∈ wsL_sets := by decide +kernel
  have hinX0 : ∀ w ∈ u_ws RX0 TX0 4, w ∈ wsL_sets := by decide +kernel
  have hl : lv_has ls 6 [(0, .ref (q 0)), (1, .int (iI 6)), (2, .int (iI x1)), (3, .int (iI x2)), (4, .int (iI 0))] := hl
  refine z_gen (fun Q hQ => ?_)
  refine lv_iload_n hx hb dL_sets_0 rfl (lv_at hl 1 rfl) ?_
  refine zi_fne (tgt := 12) hx hb (by decide) dL_sets_1 (by decide) (fun c_1 => ?_) (fun c_1 => ?_)
  · skip
    refine lv_iload_n hx hb dL_sets_12 rfl (lv_at hl 1 rfl) ?_
    refine lv_iconst (v := iI 1) hx hb dL_sets_13 rfl ?_
    refine zi_cne (tgt := 26) hx hb (by decide) (by decide) dL_sets_14 (by decide) (fun c_2 => ?_) (fun c_2 => ?_)
    · skip
      refine lv_iload_n hx hb dL_sets_26 rfl (lv_at hl 1 rfl) ?_
      refine lv_iconst (v := iI 2) hx hb dL_sets_27 rfl ?_
      refine zi_cne (tgt := 42) hx hb (by decide) (by decide) dL_sets_28 (by decide) (fun c_3 => ?_) (fun c_3 => ?_)
      · skip
        refine lv_iload_n hx hb dL_sets_42 rfl (lv_at hl 1 rfl) ?_
        refine lv_iconst (v := iI 3) hx hb dL_sets_43 rfl ?_
        refine zi_cne (tgt := 55) hx hb (by decide) (by decide) dL_sets_44 (by decide) (fun c_4 => ?_) (fun c_4 => ?_)
        · skip
          refine lv_iload_n hx hb dL_sets_55 rfl (lv_at hl 1 rfl) ?_
          refine lv_iconst (v := iI 4) hx hb dL_sets_56 rfl ?_
          refine zi_cne (tgt := 68) hx hb (by decide) (by decide) dL_sets_57 (by decide) (fun c_5 => ?_) (fun c_5 => ?_)
          · skip
            refine lv_iload_n hx hb dL_sets_68 rfl (lv_at hl 1 rfl) ?_
            refine lv_iconst (v := iI 5) hx hb dL_sets_69 rfl ?_
            refine zi_cne (tgt := 84) hx hb (by decide) (by decide) dL_sets_70 (by decide) (fun c_6 => ?_) (fun c_6 => ?_)
            · skip
              refine lv_iload_n hx hb dL_sets_84 rfl (lv_at hl 1 rfl) ?_
              refine lv_bipush (v := iI 6) hx hb dL_sets_85 (by decide) ?_
              refine zi_cne (tgt := 99) hx hb (by decide) (by decide) dL_sets_87 (by decide) (fun c_7 => ?_) (fun c_7 => ?_)
              · skip
                exact absurd c_7 (by decide)
              · skip
                refine lv_aload_n hx hb dL_sets_90 rfl (lv_at hl 0 rfl) ?_
                refine lv_iload_n hx hb dL_sets_91 rfl (lv_at hl 2 rfl) ?_
                refine lv_iload_n hx hb dL_sets_92 rfl (lv_at hl 3 rfl) ?_
                refine zxc_i (vx_runV (As := [.int (iI x1), .int (iI x2)]) (rest := []) ⟨hx, hb, hml, hown, hts⟩ (kX7_addEvent l dC dI cI cJ cZ q pw co la vo cpar fr cdee use run nC tdue tlat twk nT edue elat ewk nE len cnt tin sp pe slp late srv hv av bd sh sc lt rule now st asl idl idn par div dee x1 x2 (by first | assumption | omega | exact b2i_01 _) (by first | assumption | omega | exact b2i_01 _) (by first | assumption | omega | exact b2i_01 _) (by first | assumption | omega | exact b2i_01 _) htr s.heap.size) (cwV 2 hts gL_sets_X7_addEvent rfl rfl rfl (by decide +kernel) ⟨Nat.le_of_ble_eq_true rfl, Nat.le_of_ble_eq_true rfl⟩) (zxV hX hS hA hK hP hD [0, 1, 2, 3, 4, 5, 6, 7, 8, 9, 10, 11, 12, 13, 14, 15, 16, 17, 18, 19, 20, 21, 22, 23, 24, 25, 26, 27, 28] rfl rfl 0 rfl rfl) rfl rfl hl.1 rfl (lv_room (Nat.le_of_ble_eq_true rfl)) dL_sets_93 ⟨Nat.le_of_ble_eq_true rfl, Nat.le_of_ble_eq_true rfl⟩) hP hD hS hA [0, 1, 2, 3, 4, 5, 6, 7, 8, 9, 10, 11, 12, 13, 14, 15, 16, 17, 18, 19, 20, 21, 22, 23, 24, 25, 26, 27, 28] [] rfl rfl rfl (by decide) (fun E_14 ce_12 q_13 H locs x_11 hP hD hS h71 h72 h73 => ?_) (fun v_10 u_9 H locs r_8 hP hD hS => ?_)
                · skip
                  have hP : va_P (dC, dI) vwCl (wP cI cJ cZ q pw co la vo cpar fr cdee use run nC tdue tlat twk nT edue elat ewk nE len cnt tin sp pe slp late srv hv av bd sh sc lt rule now st asl idl idn par div dee) H := hP
                  have hD : va_D A (wP cI cJ cZ q pw co la vo cpar fr cdee use run nC tdue tlat twk nT edue elat ewk nE len cnt tin sp pe slp late srv hv av bd sh sc lt rule now st asl idl idn par div dee) := hD
                  rcases x_11 with ⟨rfl, hc9⟩ | ⟨rfl, hc9⟩
                  · skip
                    exact absurd hbad.1 hc9
                  · skip
                    refine vx_catch (own := RL) (name := xS) hown [⟨0, 133, 134, 43⟩, ⟨0, 133, 139, 45⟩] ⟨0, 133, 144, 47⟩ [] (by rw [htab]; rfl) (fun z hz => by (simp only [List.mem_cons, List.not_mem_nil, or_false] at hz); rcases hz with rfl | rfl; exact Or.inr ⟨by decide, xI, (hts _ (List.mem_of_getElem? (i := 1) rfl)), hY.2.1⟩; exact Or.inr ⟨by decide, xA, (hts _ (List.mem_of_getElem? (i := 2) rfl)), hY.2.2⟩) (by decide) (by decide) (hts _ (List.mem_of_getElem? (i := 3) rfl)) (va_Nw.use rfl (hX.1.1 xS (List.mem_of_getElem? (i := 2) rfl))) h71 h72 h73 ?_
                    refine lv_astore (lv' := [(5, .ref q_13), (0, .ref (q 0)), (1, .int (iI 6)), (2, .int (iI x1)), (3, .int (iI x2)), (4, .int (iI 0))]) hx hb dL_sets_144 hl (by decide) rfl (fun ls hl => ?_)
                    refine lv_bipush (v := iI (-83)) hx hb dL_sets_146 (by decide) ?_
                    subst hQ
                    refine W.widen (k := 1) (n := 6) (by decide) (by decide) ?_
                    exact zret_i (W1 := fun _ : Unit => wP cI cJ cZ q pw co la vo cpar fr cdee use run nC tdue tlat twk nT edue elat ewk nE len cnt tin sp pe slp late srv hv av bd sh sc lt rule now st asl idl idn par div dee) () hx hb hr hP hD hS hlocks dL_sets_148 (by exact rfl)
                obtain ⟨v_15, r_8⟩ := r_8
                refine ze_i v_15 ?_
                have r_8 : (((now ≤ x1 ∧ x1 ≤ now + 1000) ∧ (1 ≤ x2 ∧ x2 ≤ 50)) ∧ nE < 12) := r_8
                exact absurd (r_8).2 hbad.2
            · skip
              exact absurd c_6 (by decide)
          · skip
            exact absurd c_5 (by decide)
        · skip
          exact absurd c_4 (by decide)
      · skip
        exact absurd c_3 (by decide)
    · skip
      exact absurd c_2 (by decide)
  · skip
    exact absurd c_1 (by decide)
def rmL_sets_ok7 : Room := { frames := 7, cells := 0, slots := 0, locals := 152 }
set_option maxRecDepth 100000 in
set_option maxHeartbeats 4000000 in
theorem kL_sets_ok7 (l : Launch) (dC : Nat → ClassId) (dI : Nat → Nat → Nat) (cI cJ cZ : ClassId) (q : Nat → Nat)  (pw : Int → Int) (co : Int → Int) (la : Int → Int) (vo : Int → Int) (cpar : Int → Int) (fr : Int → Int) (cdee : Int → Int) (use : Int → Int) (run : Int → Int) (nC : Int) (tdue : Int → Int) (tlat : Int → Int) (twk : Int → Int) (nT : Int) (edue : Int → Int) (elat : Int → Int) (ewk : Int → Int) (nE : Int) (len : Int → Int) (cnt : Int) (tin : Int → Int) (sp : Int) (pe : Int) (slp : Int) (late : Int) (srv : Int) (hv : Int → Int) (av : Int) (bd : Int) (sh : Int) (sc : Int → Int) (lt : Int → Int) (rule : Int) (now : Int) (st : Int) (asl : Int) (idl : Int → Int) (idn : Int) (par : Int → Int) (div : Int → Int) (dee : Int → Int) (x1 : Int) (hx1 : zR x1) (hst : 0 ≤ st ∧ st ≤ 3) (hpw : rgZ pw 4 1000) (hco : rgZ co 4 10000) (hla : rgZ la 4 100) (hnow : 0 ≤ now ∧ now ≤ 200000) (hasl : 0 ≤ asl ∧ asl ≤ now) (hid : idR len cnt idl idn) (hok : 0 ≤ x1 ∧ x1 ≤ 2) : zMi l yL_sets wsL_sets rmL_sets_ok7 (dC, dI) (zT cI cJ cZ) (wP cI cJ cZ q pw co la vo cpar fr cdee use run nC tdue tlat twk nT edue elat ewk nE len cnt tin sp pe slp late srv hv av bd sh sc lt rule now st asl idl idn par div dee) [.ref (q 0), .int (iI 7), .int (iI x1), .int (iI 0), .int (iI 0)] (fun (r9 : Int) (u9 : Int × Int × Int × (Int → Int) × Int × (Int → Int) × Int) => r9 = rule ∧ (((u9.1), (u9.2.1), (u9.2.2.1), (u9.2.2.2.1), (u9.2.2.2.2.1)) = scF pw la st asl now sp pe idl idn ∧ idR (u9.2.2.2.2.2.1) (u9.2.2.2.2.2.2) (u9.2.2.2.1) (u9.2.2.2.2.1))) (fun u9 : Int × Int × Int × (Int → Int) × Int × (Int → Int) × Int => wP cI cJ cZ q pw co la vo cpar fr cdee use run nC tdue tlat twk nT edue elat ewk nE (u9.2.2.2.2.2.1) (u9.2.2.2.2.2.2) tin (u9.2.1) (u9.2.2.1) slp late srv hv av bd sh sc lt x1 now (u9.1) asl (u9.2.2.2.1) (u9.2.2.2.2.1) par div dee) 0 0 := by
  refine zentu_i (cc := cL_sets) (maxL := 6) (ret := (some .int)) (by decide +kernel) rfl (Nat.le_of_ble_eq_true rfl) ?_
  intro p e s m below meth c A ls hE hP hK hA hD hS hl
  obtain ⟨hx, hb, hr, hml, hown, hts, hlocks, hmn⟩ := hE
  have hinX7 : ∀ w ∈ u_ws RX7 TX7 13, w ∈ wsL_sets := by decide +kernel
  have hinX6 : ∀ w ∈ u_ws RX6 TX6 3, w ∈ wsL_sets := by decide +kernel
  have hinX4 : ∀ w ∈ u_ws RX4 TX4 6, w ∈ wsL_sets := by decide +kernel
  have hinX2 : ∀ w ∈ u_ws RX2 TX2 2, w ∈ wsL_sets := by decide +kernel
  have hinX1 : ∀ w ∈ u_ws RX1 TX1 6, w ∈ wsL_sets := by decide +kernel
  have hinX3 : ∀ w ∈ u_ws RX3 TX3 4, w ∈ wsL_sets := by decide +kernel
  have hinX0 : ∀ w ∈ u_ws RX0 TX0 4, w ∈ wsL_sets := by decide +kernel
  have hl : lv_has ls 6 [(0, .ref (q 0)), (1, .int (iI 7)), (2, .int (iI x1)), (3, .int (iI 0)), (4, .int (iI 0))] := hl
  refine z_gen (fun Q hQ => ?_)
  refine lv_iload_n hx hb dL_sets_0 rfl (lv_at hl 1 rfl) ?_
  refine zi_fne (tgt := 12) hx hb (by decide) dL_sets_1 (by decide) (fun c_1 => ?_) (fun c_1 => ?_)
  · skip
    refine lv_iload_n hx hb dL_sets_12 rfl (lv_at hl 1 rfl) ?_
    refine lv_iconst (v := iI 1) hx hb dL_sets_13 rfl ?_
    refine zi_cne (tgt := 26) hx hb (by decide) (by decide) dL_sets_14 (by decide) (fun c_2 => ?_) (fun c_2 => ?_)
    · skip
      refine lv_iload_n hx hb dL_sets_26 rfl (lv_at hl 1 rfl) ?_
      refine lv_iconst (v := iI 2) hx hb dL_sets_27 rfl ?_
      refine zi_cne (tgt := 42) hx hb (by decide) (by decide) dL_sets_28 (by decide) (fun c_3 => ?_) (fun c_3 => ?_)
      · skip
        refine lv_iload_n hx hb dL_sets_42 rfl (lv_at hl 1 rfl) ?_
        refine lv_iconst (v := iI 3) hx hb dL_sets_43 rfl ?_
        refine zi_cne (tgt := 55) hx hb (by decide) (by decide) dL_sets_44 (by decide) (fun c_4 => ?_) (fun c_4 => ?_)
        · skip
          refine lv_iload_n hx hb dL_sets_55 rfl (lv_at hl 1 rfl) ?_
          refine lv_iconst (v := iI 4) hx hb dL_sets_56 rfl ?_
          refine zi_cne (tgt := 68) hx hb (by decide) (by decide) dL_sets_57 (by decide) (fun c_5 => ?_) (fun c_5 => ?_)
          · skip
            refine lv_iload_n hx hb dL_sets_68 rfl (lv_at hl 1 rfl) ?_
            refine lv_iconst (v := iI 5) hx hb dL_sets_69 rfl ?_
            refine zi_cne (tgt := 84) hx hb (by decide) (by decide) dL_sets_70 (by decide) (fun c_6 => ?_) (fun c_6 => ?_)
            · skip
              refine lv_iload_n hx hb dL_sets_84 rfl (lv_at hl 1 rfl) ?_
              refine lv_bipush (v := iI 6) hx hb dL_sets_85 (by decide) ?_
              refine zi_cne (tgt := 99) hx hb (by decide) (by decide) dL_sets_87 (by decide) (fun c_7 => ?_) (fun c_7 => ?_)
              · skip
                refine lv_iload_n hx hb dL_sets_99 rfl (lv_at hl 1 rfl) ?_
                refine lv_bipush (v := iI 7) hx hb dL_sets_100 (by decide) ?_
                refine zi_cne (tgt := 113) hx hb (by decide) (by decide) dL_sets_102 (by decide) (fun c_8 => ?_) (fun c_8 => ?_)
                · skip
                  exact absurd c_8 (by decide)
                · skip
                  refine lv_aload_n hx hb dL_sets_105 rfl (lv_at hl 0 rfl) ?_
                  refine lv_iload_n hx hb dL_sets_106 rfl (lv_at hl 2 rfl) ?_
                  refine zc_i (va_runV (As := [.int (iI x1)]) (rest := []) ⟨hx, hb, hml, hown, hts⟩ (kX7_setRule_ok l dC dI cI cJ cZ q pw co la vo cpar fr cdee use run nC tdue tlat twk nT edue elat ewk nE len cnt tin sp pe slp late srv hv av bd sh sc lt rule now st asl idl idn par div dee x1 (by first | assumption | omega | exact b2i_01 _) (by first | assumption | omega | exact b2i_01 _) (by first | assumption | omega | exact b2i_01 _) (by first | assumption | omega | exact b2i_01 _) (by first | assumption | omega | exact b2i_01 _) (by first | assumption | omega | exact b2i_01 _) (by first | assumption | omega | exact b2i_01 _) (by first | assumption | omega | exact b2i_01 _) (by first | assumption | omega | exact b2i_01 _) s.heap.size) (cwV 1 hts gL_sets_X7_setRule rfl rfl rfl (by decide +kernel) ⟨Nat.le_of_ble_eq_true rfl, Nat.le_of_ble_eq_true rfl⟩) (zpV hK hP hD [0, 1, 2, 3, 4, 5, 6, 7, 8, 9, 10, 11, 12, 13, 14, 15, 16, 17, 18, 19, 20, 21, 22, 23, 24, 25, 26, 27, 28] rfl rfl 0 rfl rfl) rfl rfl hl.1 rfl (lv_room (Nat.le_of_ble_eq_true rfl)) dL_sets_107 ⟨Nat.le_of_ble_eq_true rfl, Nat.le_of_ble_eq_true rfl⟩) hP hD hS hA [0, 1, 2, 3, 4, 5, 6, 7, 8, 9, 10, 11, 12, 13, 14, 15, 16, 17, 18, 19, 20, 21, 22, 23, 24, 25, 26, 27, 28] [] rfl rfl rfl (by decide) (fun v_11 u_10 H locs r_9 hP hD hS => ?_)
                  obtain ⟨stx_12, spx_13, pex_14, idlx_15, idnx_16, lenx_17, cntx_18⟩ := u_10
                  obtain ⟨v_19, r_9⟩ := r_9
                  refine ze_i v_19 ?_
                  have r_9 : (stx_12, spx_13, pex_14, idlx_15, idnx_16) = scF pw la st asl now sp pe idl idn ∧ idR lenx_17 cntx_18 idlx_15 idnx_16 := r_9
                  have hP : va_P (dC, dI) vwCl (wP cI cJ cZ q pw co la vo cpar fr cdee use run nC tdue tlat twk nT edue elat ewk nE lenx_17 cntx_18 tin spx_13 pex_14 slp late srv hv av bd sh sc lt x1 now stx_12 asl idlx_15 idnx_16 par div dee) H := hP
                  have hD : va_D A (wP cI cJ cZ q pw co la vo cpar fr cdee use run nC tdue tlat twk nT edue elat ewk nE lenx_17 cntx_18 tin spx_13 pex_14 slp late srv hv av bd sh sc lt x1 now stx_12 asl idlx_15 idnx_16 par div dee) := hD
                  have hq9 := r_9
                  refine lv_goto (tgt := 133) hx hb dL_sets_110 (by decide) ?_
                  subst hQ
                  exact zret_i (W1 := fun u9 : Int × Int × Int × (Int → Int) × Int × (Int → Int) × Int => wP cI cJ cZ q pw co la vo cpar fr cdee use run nC tdue tlat twk nT edue elat ewk nE (u9.2.2.2.2.2.1) (u9.2.2.2.2.2.2) tin (u9.2.1) (u9.2.2.1) slp late srv hv av bd sh sc lt x1 now (u9.1) asl (u9.2.2.2.1) (u9.2.2.2.2.1) par div dee) (stx_12, spx_13, pex_14, idlx_15, idnx_16, lenx_17, cntx_18) hx hb hr hP hD hS hlocks dL_sets_133 (by exact ⟨rfl, hq9⟩)
              · skip
                exact absurd c_7 (by decide)
            · skip
              exact absurd c_6 (by decide)
          · skip
            exact absurd c_5 (by decide)
        · skip
          exact absurd c_4 (by decide)
      · skip
        exact absurd c_3 (by decide)
    · skip
      exact absurd c_2 (by decide)
  · skip
    exact absurd c_1 (by decide)
def rmL_sets_bad7 : Room := { frames := 7, cells := 1, slots := 6, locals := 152 }
set_option maxRecDepth 100000 in
set_option maxHeartbeats 4000000 in
theorem kL_sets_bad7 (l : Launch) (dC : Nat → ClassId) (dI : Nat → Nat → Nat) (cI cJ cZ : ClassId) (q : Nat → Nat)  (pw : Int → Int) (co : Int → Int) (la : Int → Int) (vo : Int → Int) (cpar : Int → Int) (fr : Int → Int) (cdee : Int → Int) (use : Int → Int) (run : Int → Int) (nC : Int) (tdue : Int → Int) (tlat : Int → Int) (twk : Int → Int) (nT : Int) (edue : Int → Int) (elat : Int → Int) (ewk : Int → Int) (nE : Int) (len : Int → Int) (cnt : Int) (tin : Int → Int) (sp : Int) (pe : Int) (slp : Int) (late : Int) (srv : Int) (hv : Int → Int) (av : Int) (bd : Int) (sh : Int) (sc : Int → Int) (lt : Int → Int) (rule : Int) (now : Int) (st : Int) (asl : Int) (idl : Int → Int) (idn : Int) (par : Int → Int) (div : Int → Int) (dee : Int → Int) (x1 : Int) (hx1 : zR x1) (hst : 0 ≤ st ∧ st ≤ 3) (hpw : rgZ pw 4 1000) (hco : rgZ co 4 10000) (hla : rgZ la 4 100) (hnow : 0 ≤ now ∧ now ≤ 200000) (hasl : 0 ≤ asl ∧ asl ≤ now) (hid : idR len cnt idl idn) (hbad : ¬ (0 ≤ x1 ∧ x1 ≤ 2)) : zMyi l yL_sets wsL_sets rmL_sets_bad7 (dC, dI) (zT cI cJ cZ) (wP cI cJ cZ q pw co la vo cpar fr cdee use run nC tdue tlat twk nT edue elat ewk nE len cnt tin sp pe slp late srv hv av bd sh sc lt rule now st asl idl idn par div dee) [.ref (q 0), .int (iI 7), .int (iI x1), .int (iI 0), .int (iI 0)] (fun (r9 : Int) (_ : Unit) => r9 = (-82)) (fun _ : Unit => wP cI cJ cZ q pw co la vo cpar fr cdee use run nC tdue tlat twk nT edue elat ewk nE len cnt tin sp pe slp late srv hv av bd sh sc lt rule now st asl idl idn par div dee) := by
  refine zenty_i (cc := cL_sets) (maxL := 6) (ret := (some .int)) (by decide +kernel) rfl (Nat.le_of_ble_eq_true rfl) ?_
  intro p e s m below meth c A ls htr htab hY hX hE hP hK hA hD hS hl
  obtain ⟨hx, hb, hr, hml, hown, hts, hlocks, hmn⟩ := hE
  have hinX7 : ∀ w ∈ u_ws RX7 TX7 13, w ∈ wsL_sets := by decide +kernel
  have hinX6 : ∀ w ∈ u_ws RX6 TX6 3, w ∈ wsL_sets := by decide +kernel
  have hinX4 : ∀ w ∈ u_ws RX4 TX4 6, w ∈ wsL_sets := by decide +kernel
  have hinX2 : ∀ w ∈ u_ws RX2 TX2 2, w ∈ wsL_sets := by decide +kernel
  have hinX1 : ∀ w ∈ u_ws RX1 TX1 6, w ∈ wsL_sets := by decide +kernel
  have hinX3 : ∀ w ∈ u_ws RX3 TX3 4, w ∈ wsL_sets := by decide +kernel
  have hinX0 : ∀ w ∈ u_ws RX0 TX0 4, w ∈ wsL_sets := by decide +kernel
  have hl : lv_has ls 6 [(0, .ref (q 0)), (1, .int (iI 7)), (2, .int (iI x1)), (3, .int (iI 0)), (4, .int (iI 0))] := hl
  refine z_gen (fun Q hQ => ?_)
  refine lv_iload_n hx hb dL_sets_0 rfl (lv_at hl 1 rfl) ?_
  refine zi_fne (tgt := 12) hx hb (by decide) dL_sets_1 (by decide) (fun c_1 => ?_) (fun c_1 => ?_)
  · skip
    refine lv_iload_n hx hb dL_sets_12 rfl (lv_at hl 1 rfl) ?_
    refine lv_iconst (v := iI 1) hx hb dL_sets_13 rfl ?_
    refine zi_cne (tgt := 26) hx hb (by decide) (by decide) dL_sets_14 (by decide) (fun c_2 => ?_) (fun c_2 => ?_)
    · skip
      refine lv_iload_n hx hb dL_sets_26 rfl (lv_at hl 1 rfl) ?_
      refine lv_iconst (v := iI 2) hx hb dL_sets_27 rfl ?_
      refine zi_cne (tgt := 42) hx hb (by decide) (by decide) dL_sets_28 (by decide) (fun c_3 => ?_) (fun c_3 => ?_)
      · skip
        refine lv_iload_n hx hb dL_sets_42 rfl (lv_at hl 1 rfl) ?_
        refine lv_iconst (v := iI 3) hx hb dL_sets_43 rfl ?_
        refine zi_cne (tgt := 55) hx hb (by decide) (by decide) dL_sets_44 (by decide) (fun c_4 => ?_) (fun c_4 => ?_)
        · skip
          refine lv_iload_n hx hb dL_sets_55 rfl (lv_at hl 1 rfl) ?_
          refine lv_iconst (v := iI 4) hx hb dL_sets_56 rfl ?_
          refine zi_cne (tgt := 68) hx hb (by decide) (by decide) dL_sets_57 (by decide) (fun c_5 => ?_) (fun c_5 => ?_)
          · skip
            refine lv_iload_n hx hb dL_sets_68 rfl (lv_at hl 1 rfl) ?_
            refine lv_iconst (v := iI 5) hx hb dL_sets_69 rfl ?_
            refine zi_cne (tgt := 84) hx hb (by decide) (by decide) dL_sets_70 (by decide) (fun c_6 => ?_) (fun c_6 => ?_)
            · skip
              refine lv_iload_n hx hb dL_sets_84 rfl (lv_at hl 1 rfl) ?_
              refine lv_bipush (v := iI 6) hx hb dL_sets_85 (by decide) ?_
              refine zi_cne (tgt := 99) hx hb (by decide) (by decide) dL_sets_87 (by decide) (fun c_7 => ?_) (fun c_7 => ?_)
              · skip
                refine lv_iload_n hx hb dL_sets_99 rfl (lv_at hl 1 rfl) ?_
                refine lv_bipush (v := iI 7) hx hb dL_sets_100 (by decide) ?_
                refine zi_cne (tgt := 113) hx hb (by decide) (by decide) dL_sets_102 (by decide) (fun c_8 => ?_) (fun c_8 => ?_)
                · skip
                  exact absurd c_8 (by decide)
                · skip
                  refine lv_aload_n hx hb dL_sets_105 rfl (lv_at hl 0 rfl) ?_
                  refine lv_iload_n hx hb dL_sets_106 rfl (lv_at hl 2 rfl) ?_
                  refine zxc_i (vx_runV (As := [.int (iI x1)]) (rest := []) ⟨hx, hb, hml, hown, hts⟩ (kX7_setRule l dC dI cI cJ cZ q pw co la vo cpar fr cdee use run nC tdue tlat twk nT edue elat ewk nE len cnt tin sp pe slp late srv hv av bd sh sc lt rule now st asl idl idn par div dee x1 (by first | assumption | omega | exact b2i_01 _) (by first | assumption | omega | exact b2i_01 _) (by first | assumption | omega | exact b2i_01 _) (by first | assumption | omega | exact b2i_01 _) (by first | assumption | omega | exact b2i_01 _) (by first | assumption | omega | exact b2i_01 _) (by first | assumption | omega | exact b2i_01 _) (by first | assumption | omega | exact b2i_01 _) htr s.heap.size) (cwV 1 hts gL_sets_X7_setRule rfl rfl rfl (by decide +kernel) ⟨Nat.le_of_ble_eq_true rfl, Nat.le_of_ble_eq_true rfl⟩) (zxV hX hS hA hK hP hD [0, 1, 2, 3, 4, 5, 6, 7, 8, 9, 10, 11, 12, 13, 14, 15, 16, 17, 18, 19, 20, 21, 22, 23, 24, 25, 26, 27, 28] rfl rfl 0 rfl rfl) rfl rfl hl.1 rfl (lv_room (Nat.le_of_ble_eq_true rfl)) dL_sets_107 ⟨Nat.le_of_ble_eq_true rfl, Nat.le_of_ble_eq_true rfl⟩) hP hD hS hA [0, 1, 2, 3, 4, 5, 6, 7, 8, 9, 10, 11, 12, 13, 14, 15, 16, 17, 18, 19, 20, 21, 22, 23, 24, 25, 26, 27, 28] [] rfl rfl rfl (by decide) (fun E_22 ce_20 q_21 H locs x_19 hP hD hS h71 h72 h73 => ?_) (fun v_11 u_10 H locs r_9 hP hD hS => ?_)
                  · skip
                    have hP : va_P (dC, dI) vwCl (wP cI cJ cZ q pw co la vo cpar fr cdee use run nC tdue tlat twk nT edue elat ewk nE len cnt tin sp pe slp late srv hv av bd sh sc lt rule now st asl idl idn par div dee) H := hP
                    have hD : va_D A (wP cI cJ cZ q pw co la vo cpar fr cdee use run nC tdue tlat twk nT edue elat ewk nE len cnt tin sp pe slp late srv hv av bd sh sc lt rule now st asl idl idn par div dee) := hD
                    rcases x_19 with ⟨rfl, hc9⟩
                    · skip
                      refine vx_catch (own := RL) (name := xA) hown [⟨0, 133, 134, 43⟩] ⟨0, 133, 139, 45⟩ [⟨0, 133, 144, 47⟩] (by rw [htab]; rfl) (fun z hz => by (simp only [List.mem_cons, List.not_mem_nil, or_false] at hz); rcases hz with rfl; exact Or.inr ⟨by decide, xI, (hts _ (List.mem_of_getElem? (i := 1) rfl)), hY.1⟩) (by decide) (by decide) (hts _ (List.mem_of_getElem? (i := 2) rfl)) (va_Nw.use rfl (hX.1.1 xA (List.mem_of_getElem? (i := 0) rfl))) h71 h72 h73 ?_
                      refine lv_astore (lv' := [(5, .ref q_21), (0, .ref (q 0)), (1, .int (iI 7)), (2, .int (iI x1)), (3, .int (iI 0)), (4, .int (iI 0))]) hx hb dL_sets_139 hl (by decide) rfl (fun ls hl => ?_)
                      refine lv_bipush (v := iI (-82)) hx hb dL_sets_141 (by decide) ?_
                      subst hQ
                      refine W.widen (k := 1) (n := 6) (by decide) (by decide) ?_
                      exact zret_i (W1 := fun _ : Unit => wP cI cJ cZ q pw co la vo cpar fr cdee use run nC tdue tlat twk nT edue elat ewk nE len cnt tin sp pe slp late srv hv av bd sh sc lt rule now st asl idl idn par div dee) () hx hb hr hP hD hS hlocks dL_sets_143 (by exact rfl)
                  obtain ⟨stx_12, spx_13, pex_14, idlx_15, idnx_16, lenx_17, cntx_18⟩ := u_10
                  obtain ⟨v_23, r_9⟩ := r_9
                  refine ze_i v_23 ?_
                  have r_9 : (0 ≤ x1 ∧ x1 ≤ 2) ∧ (stx_12, spx_13, pex_14, idlx_15, idnx_16) = scF pw la st asl now sp pe idl idn ∧ idR lenx_17 cntx_18 idlx_15 idnx_16 := r_9
                  exact absurd (r_9).1 hbad
              · skip
                exact absurd c_7 (by decide)
            · skip
              exact absurd c_6 (by decide)
          · skip
            exact absurd c_5 (by decide)
        · skip
          exact absurd c_4 (by decide)
      · skip
        exact absurd c_3 (by decide)
    · skip
      exact absurd c_2 (by decide)
  · skip
    exact absurd c_1 (by decide)
def rmL_sets_bad8 : Room := { frames := 7, cells := 1, slots := 6, locals := 152 }
set_option maxRecDepth 100000 in
set_option maxHeartbeats 4000000 in
theorem kL_sets_bad8 (l : Launch) (dC : Nat → ClassId) (dI : Nat → Nat → Nat) (cI cJ cZ : ClassId) (q : Nat → Nat)  (pw : Int → Int) (co : Int → Int) (la : Int → Int) (vo : Int → Int) (cpar : Int → Int) (fr : Int → Int) (cdee : Int → Int) (use : Int → Int) (run : Int → Int) (nC : Int) (tdue : Int → Int) (tlat : Int → Int) (twk : Int → Int) (nT : Int) (edue : Int → Int) (elat : Int → Int) (ewk : Int → Int) (nE : Int) (len : Int → Int) (cnt : Int) (tin : Int → Int) (sp : Int) (pe : Int) (slp : Int) (late : Int) (srv : Int) (hv : Int → Int) (av : Int) (bd : Int) (sh : Int) (sc : Int → Int) (lt : Int → Int) (rule : Int) (now : Int) (st : Int) (asl : Int) (idl : Int → Int) (idn : Int) (par : Int → Int) (div : Int → Int) (dee : Int → Int) (x1 : Int) (hx1 : zR x1) (hnC : 1 ≤ nC ∧ nC ≤ 8) (hcp : ∀ c : Int, 1 ≤ c → c < nC → 0 ≤ cpar c ∧ cpar c < c) (huse : rgZ use 8 9) (hrun : tfZ run) (hcd : rgZ cdee 8 3) (hvo : rgZ vo 6 3) (hpp : ∀ c : Int, 1 ≤ c → c < nC → par c = cpar c) (hdd : ∀ c : Int, 1 ≤ c → c < nC → dee c = cdee c) (hd0 : cdee 0 = 3) (hde : rgZ dee 8 3) (hrl : 0 ≤ rule ∧ rule ≤ 2) (hpw : rgZ pw 4 1000) (hco : rgZ co 4 10000) (hla : rgZ la 4 100) (hhv : rgZ hv 24 1000) (hid : idR len cnt idl idn) (hel : rgZ elat 12 1000000) (htk : ∃ K : Int, K ≤ 190000 ∧ tiB K st asl now nT tdue tlat twk nE edue ewk sp pe tin slp late srv av bd sh idl idn) (hbad : ¬ (1 ≤ x1 ∧ x1 ≤ 200)) : zMyi l yL_sets wsL_sets rmL_sets_bad8 (dC, dI) (zT cI cJ cZ) (wP cI cJ cZ q pw co la vo cpar fr cdee use run nC tdue tlat twk nT edue elat ewk nE len cnt tin sp pe slp late srv hv av bd sh sc lt rule now st asl idl idn par div dee) [.ref (q 0), .int (iI 8), .int (iI x1), .int (iI 0), .int (iI 0)] (fun (r9 : Int) (_ : Unit) => r9 = (-82)) (fun _ : Unit => wP cI cJ cZ q pw co la vo cpar fr cdee use run nC tdue tlat twk nT edue elat ewk nE len cnt tin sp pe slp late srv hv av bd sh sc lt rule now st asl idl idn par div dee) := by
  refine zenty_i (cc := cL_sets) (maxL := 6) (ret := (some .int)) (by decide +kernel) rfl (Nat.le_of_ble_eq_true rfl) ?_
  intro p e s m below meth c A ls htr htab hY hX hE hP hK hA hD hS hl
  obtain ⟨hx, hb, hr, hml, hown, hts, hlocks, hmn⟩ := hE
  have hinX7 : ∀ w ∈ u_ws RX7 TX7 13, w ∈ wsL_sets := by decide +kernel
  have hinX6 : ∀ w ∈ u_ws RX6 TX6 3, w ∈ wsL_sets := by decide +kernel
  have hinX4 : ∀ w ∈ u_ws RX4 TX4 6, w ∈ wsL_sets := by decide +kernel
  have hinX2 : ∀ w ∈ u_ws RX2 TX2 2, w ∈ wsL_sets := by decide +kernel
  have hinX1 : ∀ w ∈ u_ws RX1 TX1 6, w ∈ wsL_sets := by decide +kernel
  have hinX3 : ∀ w ∈ u_ws RX3 TX3 4, w ∈ wsL_sets := by decide +kernel
  have hinX0 : ∀ w ∈ u_ws RX0 TX0 4, w ∈ wsL_sets := by decide +kernel
  have hl : lv_has ls 6 [(0, .ref (q 0)), (1, .int (iI 8)), (2, .int (iI x1)), (3, .int (iI 0)), (4, .int (iI 0))] := hl
  refine z_gen (fun Q hQ => ?_)
  refine lv_iload_n hx hb dL_sets_0 rfl (lv_at hl 1 rfl) ?_
  refine zi_fne (tgt := 12) hx hb (by decide) dL_sets_1 (by decide) (fun c_1 => ?_) (fun c_1 => ?_)
  · skip
    refine lv_iload_n hx hb dL_sets_12 rfl (lv_at hl 1 rfl) ?_
    refine lv_iconst (v := iI 1) hx hb dL_sets_13 rfl ?_
    refine zi_cne (tgt := 26) hx hb (by decide) (by decide) dL_sets_14 (by decide) (fun c_2 => ?_) (fun c_2 => ?_)
    · skip
      refine lv_iload_n hx hb dL_sets_26 rfl (lv_at hl 1 rfl) ?_
      refine lv_iconst (v := iI 2) hx hb dL_sets_27 rfl ?_
      refine zi_cne (tgt := 42) hx hb (by decide) (by decide) dL_sets_28 (by decide) (fun c_3 => ?_) (fun c_3 => ?_)
      · skip
        refine lv_iload_n hx hb dL_sets_42 rfl (lv_at hl 1 rfl) ?_
        refine lv_iconst (v := iI 3) hx hb dL_sets_43 rfl ?_
        refine zi_cne (tgt := 55) hx hb (by decide) (by decide) dL_sets_44 (by decide) (fun c_4 => ?_) (fun c_4 => ?_)
        · skip
          refine lv_iload_n hx hb dL_sets_55 rfl (lv_at hl 1 rfl) ?_
          refine lv_iconst (v := iI 4) hx hb dL_sets_56 rfl ?_
          refine zi_cne (tgt := 68) hx hb (by decide) (by decide) dL_sets_57 (by decide) (fun c_5 => ?_) (fun c_5 => ?_)
          · skip
            refine lv_iload_n hx hb dL_sets_68 rfl (lv_at hl 1 rfl) ?_
            refine lv_iconst (v := iI 5) hx hb dL_sets_69 rfl ?_
            refine zi_cne (tgt := 84) hx hb (by decide) (by decide) dL_sets_70 (by decide) (fun c_6 => ?_) (fun c_6 => ?_)
            · skip
              refine lv_iload_n hx hb dL_sets_84 rfl (lv_at hl 1 rfl) ?_
              refine lv_bipush (v := iI 6) hx hb dL_sets_85 (by decide) ?_
              refine zi_cne (tgt := 99) hx hb (by decide) (by decide) dL_sets_87 (by decide) (fun c_7 => ?_) (fun c_7 => ?_)
              · skip
                refine lv_iload_n hx hb dL_sets_99 rfl (lv_at hl 1 rfl) ?_
                refine lv_bipush (v := iI 7) hx hb dL_sets_100 (by decide) ?_
                refine zi_cne (tgt := 113) hx hb (by decide) (by decide) dL_sets_102 (by decide) (fun c_8 => ?_) (fun c_8 => ?_)
                · skip
                  refine lv_iload_n hx hb dL_sets_113 rfl (lv_at hl 1 rfl) ?_
                  refine lv_bipush (v := iI 8) hx hb dL_sets_114 (by decide) ?_
                  refine zi_cne (tgt := 127) hx hb (by decide) (by decide) dL_sets_116 (by decide) (fun c_9 => ?_) (fun c_9 => ?_)
                  · skip
                    exact absurd c_9 (by decide)
                  · skip
                    refine lv_aload_n hx hb dL_sets_119 rfl (lv_at hl 0 rfl) ?_
                    refine lv_iload_n hx hb dL_sets_120 rfl (lv_at hl 2 rfl) ?_
                    refine zxc_i (vx_runV (As := [.int (iI x1)]) (rest := []) ⟨hx, hb, hml, hown, hts⟩ (kX7_play l dC dI cI cJ cZ q pw co la vo cpar fr cdee use run nC tdue tlat twk nT edue elat ewk nE len cnt tin sp pe slp late srv hv av bd sh sc lt rule now st asl idl idn par div dee x1 (by first | assumption | omega | exact b2i_01 _) (by first | assumption | omega | exact b2i_01 _) (by first | assumption | omega | exact b2i_01 _) (by first | assumption | omega | exact b2i_01 _) (by first | assumption | omega | exact b2i_01 _) (by first | assumption | omega | exact b2i_01 _) (by first | assumption | omega | exact b2i_01 _) (by first | assumption | omega | exact b2i_01 _) (by first | assumption | omega | exact b2i_01 _) (by first | assumption | omega | exact b2i_01 _) (by first | assumption | omega | exact b2i_01 _) (by first | assumption | omega | exact b2i_01 _) (by first | assumption | omega | exact b2i_01 _) (by first | assumption | omega | exact b2i_01 _) (by first | assumption | omega | exact b2i_01 _) (by first | assumption | omega | exact b2i_01 _) (by first | assumption | omega | exact b2i_01 _) (by first | assumption | omega | exact b2i_01 _) (by first | assumption | omega | exact b2i_01 _) htr s.heap.size) (cwV 1 hts gL_sets_X7_play rfl rfl rfl (by decide +kernel) ⟨Nat.le_of_ble_eq_true rfl, Nat.le_of_ble_eq_true rfl⟩) (zxV hX hS hA hK hP hD [0, 1, 2, 3, 4, 5, 6, 7, 8, 9, 10, 11, 12, 13, 14, 15, 16, 17, 18, 19, 20, 21, 22, 23, 24, 25, 26, 27, 28] rfl rfl 0 rfl rfl) rfl rfl hl.1 rfl (lv_room (Nat.le_of_ble_eq_true rfl)) dL_sets_121 ⟨Nat.le_of_ble_eq_true rfl, Nat.le_of_ble_eq_true rfl⟩) hP hD hS hA [0, 1, 2, 3, 4, 5, 6, 7, 8, 9, 10, 11, 12, 13, 14, 15, 16, 17, 18, 19, 20, 21, 22, 23, 24, 25, 26, 27, 28] [] rfl rfl rfl (by decide) (fun E_41 ce_39 q_40 H locs x_38 hP hD hS h71 h72 h73 => ?_) (fun v_12 u_11 H locs r_10 hP hD hS => ?_)
                    · skip
                      have hP : va_P (dC, dI) vwCl (wP cI cJ cZ q pw co la vo cpar fr cdee use run nC tdue tlat twk nT edue elat ewk nE len cnt tin sp pe slp late srv hv av bd sh sc lt rule now st asl idl idn par div dee) H := hP
                      have hD : va_D A (wP cI cJ cZ q pw co la vo cpar fr cdee use run nC tdue tlat twk nT edue elat ewk nE len cnt tin sp pe slp late srv hv av bd sh sc lt rule now st asl idl idn par div dee) := hD
                      rcases x_38 with ⟨rfl, hc9⟩
                      · skip
                        refine vx_catch (own := RL) (name := xA) hown [⟨0, 133, 134, 43⟩] ⟨0, 133, 139, 45⟩ [⟨0, 133, 144, 47⟩] (by rw [htab]; rfl) (fun z hz => by (simp only [List.mem_cons, List.not_mem_nil, or_false] at hz); rcases hz with rfl; exact Or.inr ⟨by decide, xI, (hts _ (List.mem_of_getElem? (i := 1) rfl)), hY.1⟩) (by decide) (by decide) (hts _ (List.mem_of_getElem? (i := 2) rfl)) (va_Nw.use rfl (hX.1.1 xA (List.mem_of_getElem? (i := 0) rfl))) h71 h72 h73 ?_
                        refine lv_astore (lv' := [(5, .ref q_40), (0, .ref (q 0)), (1, .int (iI 8)), (2, .int (iI x1)), (3, .int (iI 0)), (4, .int (iI 0))]) hx hb dL_sets_139 hl (by decide) rfl (fun ls hl => ?_)
                        refine lv_bipush (v := iI (-82)) hx hb dL_sets_141 (by decide) ?_
                        subst hQ
                        refine W.widen (k := 1) (n := 6) (by decide) (by decide) ?_
                        exact zret_i (W1 := fun _ : Unit => wP cI cJ cZ q pw co la vo cpar fr cdee use run nC tdue tlat twk nT edue elat ewk nE len cnt tin sp pe slp late srv hv av bd sh sc lt rule now st asl idl idn par div dee) () hx hb hr hP hD hS hlocks dL_sets_143 (by exact rfl)
                    obtain ⟨stx_13, aslx_14, nowx_15, nTx_16, tduex_17, tlatx_18, twkx_19, nEx_20, eduex_21, ewkx_22, spx_23, pex_24, tinx_25, slpx_26, latex_27, srvx_28, avx_29, bdx_30, shx_31, idlx_32, idnx_33, lenx_34, cntx_35, elatx_36, runx_37⟩ := u_11
                    obtain ⟨v_42, r_10⟩ := r_10
                    refine ze_i v_42 ?_
                    have r_10 : (1 ≤ x1 ∧ x1 ≤ 200) ∧ (stx_13, aslx_14, nowx_15, nTx_16, tduex_17, tlatx_18, twkx_19, nEx_20, eduex_21, ewkx_22, spx_23, pex_24, tinx_25, slpx_26, latex_27, srvx_28, avx_29, bdx_30, shx_31, idlx_32, idnx_33) = itT pw co la hv rule (dzM vo par dee use nC) x1.toNat (st, asl, now, nT, tdue, tlat, twk, nE, edue, ewk, sp, pe, tin, slp, late, srv, av, bd, sh, idl, idn) ∧ idR lenx_34 cntx_35 idlx_32 idnx_33 ∧ rgZ elatx_36 12 1000000 ∧ tfZ runx_37 := r_10
                    exact absurd (r_10).1 hbad
                · skip
                  exact absurd c_8 (by decide)
              · skip
                exact absurd c_7 (by decide)
            · skip
              exact absurd c_6 (by decide)
          · skip
            exact absurd c_5 (by decide)
        · skip
          exact absurd c_4 (by decide)
      · skip
        exact absurd c_3 (by decide)
    · skip
      exact absurd c_2 (by decide)
  · skip
    exact absurd c_1 (by decide)
def rmL_sets_ok9 : Room := { frames := 7, cells := 0, slots := 0, locals := 152 }
set_option maxRecDepth 100000 in
set_option maxHeartbeats 4000000 in
theorem kL_sets_ok9 (l : Launch) (dC : Nat → ClassId) (dI : Nat → Nat → Nat) (cI cJ cZ : ClassId) (q : Nat → Nat)  (pw : Int → Int) (co : Int → Int) (la : Int → Int) (vo : Int → Int) (cpar : Int → Int) (fr : Int → Int) (cdee : Int → Int) (use : Int → Int) (run : Int → Int) (nC : Int) (tdue : Int → Int) (tlat : Int → Int) (twk : Int → Int) (nT : Int) (edue : Int → Int) (elat : Int → Int) (ewk : Int → Int) (nE : Int) (len : Int → Int) (cnt : Int) (tin : Int → Int) (sp : Int) (pe : Int) (slp : Int) (late : Int) (srv : Int) (hv : Int → Int) (av : Int) (bd : Int) (sh : Int) (sc : Int → Int) (lt : Int → Int) (rule : Int) (now : Int) (st : Int) (asl : Int) (idl : Int → Int) (idn : Int) (par : Int → Int) (div : Int → Int) (dee : Int → Int) (x1 x2 : Int) (hx1 : zR x1) (hx2 : zR x2) (hok : (0 ≤ x1 ∧ x1 ≤ 23) ∧ (0 ≤ x2 ∧ x2 ≤ 1000)) : zMi l yL_sets wsL_sets rmL_sets_ok9 (dC, dI) (zT cI cJ cZ) (wP cI cJ cZ q pw co la vo cpar fr cdee use run nC tdue tlat twk nT edue elat ewk nE len cnt tin sp pe slp late srv hv av bd sh sc lt rule now st asl idl idn par div dee) [.ref (q 0), .int (iI 9), .int (iI x1), .int (iI x2), .int (iI 0)] (fun (r9 : Int) (_ : Unit) => r9 = hv x1) (fun _ : Unit => wP cI cJ cZ q pw co la vo cpar fr cdee use run nC tdue tlat twk nT edue elat ewk nE len cnt tin sp pe slp late srv (uZ hv x1 x2) av bd sh sc lt rule now st asl idl idn par div dee) 0 0 := by
  refine zentu_i (cc := cL_sets) (maxL := 6) (ret := (some .int)) (by decide +kernel) rfl (Nat.le_of_ble_eq_true rfl) ?_
  intro p e s m below meth c A ls hE hP hK hA hD hS hl
  obtain ⟨hx, hb, hr, hml, hown, hts, hlocks, hmn⟩ := hE
  have hinX7 : ∀ w ∈ u_ws RX7 TX7 13, w ∈ wsL_sets := by decide +kernel
  have hinX6 : ∀ w ∈ u_ws RX6 TX6 3, w ∈ wsL_sets := by decide +kernel
  have hinX4 : ∀ w ∈ u_ws RX4 TX4 6, w ∈ wsL_sets := by decide +kernel
  have hinX2 : ∀ w ∈ u_ws RX2 TX2 2, w ∈ wsL_sets := by decide +kernel
  have hinX1 : ∀ w ∈ u_ws RX1 TX1 6, w ∈ wsL_sets := by decide +kernel
  have hinX3 : ∀ w ∈ u_ws RX3 TX3 4, w ∈ wsL_sets := by decide +kernel
  have hinX0 : ∀ w ∈ u_ws RX0 TX0 4, w ∈ wsL_sets := by decide +kernel
  have hl : lv_has ls 6 [(0, .ref (q 0)), (1, .int (iI 9)), (2, .int (iI x1)), (3, .int (iI x2)), (4, .int (iI 0))] := hl
  refine z_gen (fun Q hQ => ?_)
  refine lv_iload_n hx hb dL_sets_0 rfl (lv_at hl 1 rfl) ?_
  refine zi_fne (tgt := 12) hx hb (by decide) dL_sets_1 (by decide) (fun c_1 => ?_) (fun c_1 => ?_)
  · skip
    refine lv_iload_n hx hb dL_sets_12 rfl (lv_at hl 1 rfl) ?_
    refine lv_iconst (v := iI 1) hx hb dL_sets_13 rfl ?_
    refine zi_cne (tgt := 26) hx hb (by decide) (by decide) dL_sets_14 (by decide) (fun c_2 => ?_) (fun c_2 => ?_)
    · skip
      refine lv_iload_n hx hb dL_sets_26 rfl (lv_at hl 1 rfl) ?_
      refine lv_iconst (v := iI 2) hx hb dL_sets_27 rfl ?_
      refine zi_cne (tgt := 42) hx hb (by decide) (by decide) dL_sets_28 (by decide) (fun c_3 => ?_) (fun c_3 => ?_)
      · skip
        refine lv_iload_n hx hb dL_sets_42 rfl (lv_at hl 1 rfl) ?_
        refine lv_iconst (v := iI 3) hx hb dL_sets_43 rfl ?_
        refine zi_cne (tgt := 55) hx hb (by decide) (by decide) dL_sets_44 (by decide) (fun c_4 => ?_) (fun c_4 => ?_)
        · skip
          refine lv_iload_n hx hb dL_sets_55 rfl (lv_at hl 1 rfl) ?_
          refine lv_iconst (v := iI 4) hx hb dL_sets_56 rfl ?_
          refine zi_cne (tgt := 68) hx hb (by decide) (by decide) dL_sets_57 (by decide) (fun c_5 => ?_) (fun c_5 => ?_)
          · skip
            refine lv_iload_n hx hb dL_sets_68 rfl (lv_at hl 1 rfl) ?_
            refine lv_iconst (v := iI 5) hx hb dL_sets_69 rfl ?_
            refine zi_cne (tgt := 84) hx hb (by decide) (by decide) dL_sets_70 (by decide) (fun c_6 => ?_) (fun c_6 => ?_)
            · skip
              refine lv_iload_n hx hb dL_sets_84 rfl (lv_at hl 1 rfl) ?_
              refine lv_bipush (v := iI 6) hx hb dL_sets_85 (by decide) ?_
              refine zi_cne (tgt := 99) hx hb (by decide) (by decide) dL_sets_87 (by decide) (fun c_7 => ?_) (fun c_7 => ?_)
              · skip
                refine lv_iload_n hx hb dL_sets_99 rfl (lv_at hl 1 rfl) ?_
                refine lv_bipush (v := iI 7) hx hb dL_sets_100 (by decide) ?_
                refine zi_cne (tgt := 113) hx hb (by decide) (by decide) dL_sets_102 (by decide) (fun c_8 => ?_) (fun c_8 => ?_)
                · skip
                  refine lv_iload_n hx hb dL_sets_113 rfl (lv_at hl 1 rfl) ?_
                  refine lv_bipush (v := iI 8) hx hb dL_sets_114 (by decide) ?_
                  refine zi_cne (tgt := 127) hx hb (by decide) (by decide) dL_sets_116 (by decide) (fun c_9 => ?_) (fun c_9 => ?_)
                  · skip
                    refine lv_aload_n hx hb dL_sets_127 rfl (lv_at hl 0 rfl) ?_
                    refine lv_iload_n hx hb dL_sets_128 rfl (lv_at hl 2 rfl) ?_
                    refine lv_iload_n hx hb dL_sets_129 rfl (lv_at hl 3 rfl) ?_
                    refine zc_i (va_runV (As := [.int (iI x1), .int (iI x2)]) (rest := []) ⟨hx, hb, hml, hown, hts⟩ (kX7_setHarvest_ok l dC dI cI cJ cZ q pw co la vo cpar fr cdee use run nC tdue tlat twk nT edue elat ewk nE len cnt tin sp pe slp late srv hv av bd sh sc lt rule now st asl idl idn par div dee x1 x2 (by first | assumption | omega | exact b2i_01 _) (by first | assumption | omega | exact b2i_01 _) (by first | assumption | omega | exact b2i_01 _) s.heap.size) (cwV 2 hts gL_sets_X7_setHarvest rfl rfl rfl (by decide +kernel) ⟨Nat.le_of_ble_eq_true rfl, Nat.le_of_ble_eq_true rfl⟩) (zpV hK hP hD [0, 1, 2, 3, 4, 5, 6, 7, 8, 9, 10, 11, 12, 13, 14, 15, 16, 17, 18, 19, 20, 21, 22, 23, 24, 25, 26, 27, 28] rfl rfl 0 rfl rfl) rfl rfl hl.1 rfl (lv_room (Nat.le_of_ble_eq_true rfl)) dL_sets_130 ⟨Nat.le_of_ble_eq_true rfl, Nat.le_of_ble_eq_true rfl⟩) hP hD hS hA [0, 1, 2, 3, 4, 5, 6, 7, 8, 9, 10, 11, 12, 13, 14, 15, 16, 17, 18, 19, 20, 21, 22, 23, 24, 25, 26, 27, 28] [] rfl rfl rfl (by decide) (fun v_12 u_11 H locs r_10 hP hD hS => ?_)
                    refine ze_i r_10 ?_
                    have hP : va_P (dC, dI) vwCl (wP cI cJ cZ q pw co la vo cpar fr cdee use run nC tdue tlat twk nT edue elat ewk nE len cnt tin sp pe slp late srv (uZ hv x1 x2) av bd sh sc lt rule now st asl idl idn par div dee) H := hP
                    have hD : va_D A (wP cI cJ cZ q pw co la vo cpar fr cdee use run nC tdue tlat twk nT edue elat ewk nE len cnt tin sp pe slp late srv (uZ hv x1 x2) av bd sh sc lt rule now st asl idl idn par div dee) := hD
                    subst hQ
                    exact zret_i (W1 := fun _ : Unit => wP cI cJ cZ q pw co la vo cpar fr cdee use run nC tdue tlat twk nT edue elat ewk nE len cnt tin sp pe slp late srv (uZ hv x1 x2) av bd sh sc lt rule now st asl idl idn par div dee) () hx hb hr hP hD hS hlocks dL_sets_133 (by exact rfl)
                  · skip
                    exact absurd c_9 (by decide)
                · skip
                  exact absurd c_8 (by decide)
              · skip
                exact absurd c_7 (by decide)
            · skip
              exact absurd c_6 (by decide)
          · skip
            exact absurd c_5 (by decide)
        · skip
          exact absurd c_4 (by decide)
      · skip
        exact absurd c_3 (by decide)
    · skip
      exact absurd c_2 (by decide)
  · skip
    exact absurd c_1 (by decide)
def rmL_sets_bad9 : Room := { frames := 7, cells := 1, slots := 6, locals := 152 }
set_option maxRecDepth 100000 in
set_option maxHeartbeats 4000000 in
theorem kL_sets_bad9 (l : Launch) (dC : Nat → ClassId) (dI : Nat → Nat → Nat) (cI cJ cZ : ClassId) (q : Nat → Nat)  (pw : Int → Int) (co : Int → Int) (la : Int → Int) (vo : Int → Int) (cpar : Int → Int) (fr : Int → Int) (cdee : Int → Int) (use : Int → Int) (run : Int → Int) (nC : Int) (tdue : Int → Int) (tlat : Int → Int) (twk : Int → Int) (nT : Int) (edue : Int → Int) (elat : Int → Int) (ewk : Int → Int) (nE : Int) (len : Int → Int) (cnt : Int) (tin : Int → Int) (sp : Int) (pe : Int) (slp : Int) (late : Int) (srv : Int) (hv : Int → Int) (av : Int) (bd : Int) (sh : Int) (sc : Int → Int) (lt : Int → Int) (rule : Int) (now : Int) (st : Int) (asl : Int) (idl : Int → Int) (idn : Int) (par : Int → Int) (div : Int → Int) (dee : Int → Int) (x1 x2 : Int) (hx1 : zR x1) (hx2 : zR x2) (hbad : ¬ ((0 ≤ x1 ∧ x1 ≤ 23) ∧ (0 ≤ x2 ∧ x2 ≤ 1000))) : zMyi l yL_sets wsL_sets rmL_sets_bad9 (dC, dI) (zT cI cJ cZ) (wP cI cJ cZ q pw co la vo cpar fr cdee use run nC tdue tlat twk nT edue elat ewk nE len cnt tin sp pe slp late srv hv av bd sh sc lt rule now st asl idl idn par div dee) [.ref (q 0), .int (iI 9), .int (iI x1), .int (iI x2), .int (iI 0)] (fun (r9 : Int) (_ : Unit) => r9 = (-82)) (fun _ : Unit => wP cI cJ cZ q pw co la vo cpar fr cdee use run nC tdue tlat twk nT edue elat ewk nE len cnt tin sp pe slp late srv hv av bd sh sc lt rule now st asl idl idn par div dee) := by
  refine zenty_i (cc := cL_sets) (maxL := 6) (ret := (some .int)) (by decide +kernel) rfl (Nat.le_of_ble_eq_true rfl) ?_
  intro p e s m below meth c A ls htr htab hY hX hE hP hK hA hD hS hl
  obtain ⟨hx, hb, hr, hml, hown, hts, hlocks, hmn⟩ := hE
  have hinX7 : ∀ w ∈ u_ws RX7 TX7 13, w ∈ wsL_sets := by decide +kernel
  have hinX6 : ∀ w ∈ u_ws RX6 TX6 3, w ∈ wsL_sets := by decide +kernel
  have hinX4 : ∀ w ∈ u_ws RX4 TX4 6, w ∈ wsL_sets := by decide +kernel
  have hinX2 : ∀ w ∈ u_ws RX2 TX2 2, w ∈ wsL_sets := by decide +kernel
  have hinX1 : ∀ w ∈ u_ws RX1 TX1 6, w ∈ wsL_sets := by decide +kernel
  have hinX3 : ∀ w ∈ u_ws RX3 TX3 4, w ∈ wsL_sets := by decide +kernel
  have hinX0 : ∀ w ∈ u_ws RX0 TX0 4, w ∈ wsL_sets := by decide +kernel
  have hl : lv_has ls 6 [(0, .ref (q 0)), (1, .int (iI 9)), (2, .int (iI x1)), (3, .int (iI x2)), (4, .int (iI 0))] := hl
  refine z_gen (fun Q hQ => ?_)
  refine lv_iload_n hx hb dL_sets_0 rfl (lv_at hl 1 rfl) ?_
  refine zi_fne (tgt := 12) hx hb (by decide) dL_sets_1 (by decide) (fun c_1 => ?_) (fun c_1 => ?_)
  · skip
    refine lv_iload_n hx hb dL_sets_12 rfl (lv_at hl 1 rfl) ?_
    refine lv_iconst (v := iI 1) hx hb dL_sets_13 rfl ?_
    refine zi_cne (tgt := 26) hx hb (by decide) (by decide) dL_sets_14 (by decide) (fun c_2 => ?_) (fun c_2 => ?_)
    · skip
      refine lv_iload_n hx hb dL_sets_26 rfl (lv_at hl 1 rfl) ?_
      refine lv_iconst (v := iI 2) hx hb dL_sets_27 rfl ?_
      refine zi_cne (tgt := 42) hx hb (by decide) (by decide) dL_sets_28 (by decide) (fun c_3 => ?_) (fun c_3 => ?_)
      · skip
        refine lv_iload_n hx hb dL_sets_42 rfl (lv_at hl 1 rfl) ?_
        refine lv_iconst (v := iI 3) hx hb dL_sets_43 rfl ?_
        refine zi_cne (tgt := 55) hx hb (by decide) (by decide) dL_sets_44 (by decide) (fun c_4 => ?_) (fun c_4 => ?_)
        · skip
          refine lv_iload_n hx hb dL_sets_55 rfl (lv_at hl 1 rfl) ?_
          refine lv_iconst (v := iI 4) hx hb dL_sets_56 rfl ?_
          refine zi_cne (tgt := 68) hx hb (by decide) (by decide) dL_sets_57 (by decide) (fun c_5 => ?_) (fun c_5 => ?_)
          · skip
            refine lv_iload_n hx hb dL_sets_68 rfl (lv_at hl 1 rfl) ?_
            refine lv_iconst (v := iI 5) hx hb dL_sets_69 rfl ?_
            refine zi_cne (tgt := 84) hx hb (by decide) (by decide) dL_sets_70 (by decide) (fun c_6 => ?_) (fun c_6 => ?_)
            · skip
              refine lv_iload_n hx hb dL_sets_84 rfl (lv_at hl 1 rfl) ?_
              refine lv_bipush (v := iI 6) hx hb dL_sets_85 (by decide) ?_
              refine zi_cne (tgt := 99) hx hb (by decide) (by decide) dL_sets_87 (by decide) (fun c_7 => ?_) (fun c_7 => ?_)
              · skip
                refine lv_iload_n hx hb dL_sets_99 rfl (lv_at hl 1 rfl) ?_
                refine lv_bipush (v := iI 7) hx hb dL_sets_100 (by decide) ?_
                refine zi_cne (tgt := 113) hx hb (by decide) (by decide) dL_sets_102 (by decide) (fun c_8 => ?_) (fun c_8 => ?_)
                · skip
                  refine lv_iload_n hx hb dL_sets_113 rfl (lv_at hl 1 rfl) ?_
                  refine lv_bipush (v := iI 8) hx hb dL_sets_114 (by decide) ?_
                  refine zi_cne (tgt := 127) hx hb (by decide) (by decide) dL_sets_116 (by decide) (fun c_9 => ?_) (fun c_9 => ?_)
                  · skip
                    refine lv_aload_n hx hb dL_sets_127 rfl (lv_at hl 0 rfl) ?_
                    refine lv_iload_n hx hb dL_sets_128 rfl (lv_at hl 2 rfl) ?_
                    refine lv_iload_n hx hb dL_sets_129 rfl (lv_at hl 3 rfl) ?_
                    refine zxc_i (vx_runV (As := [.int (iI x1), .int (iI x2)]) (rest := []) ⟨hx, hb, hml, hown, hts⟩ (kX7_setHarvest l dC dI cI cJ cZ q pw co la vo cpar fr cdee use run nC tdue tlat twk nT edue elat ewk nE len cnt tin sp pe slp late srv hv av bd sh sc lt rule now st asl idl idn par div dee x1 x2 (by first | assumption | omega | exact b2i_01 _) (by first | assumption | omega | exact b2i_01 _) htr s.heap.size) (cwV 2 hts gL_sets_X7_setHarvest rfl rfl rfl (by decide +kernel) ⟨Nat.le_of_ble_eq_true rfl, Nat.le_of_ble_eq_true rfl⟩) (zxV hX hS hA hK hP hD [0, 1, 2, 3, 4, 5, 6, 7, 8, 9, 10, 11, 12, 13, 14, 15, 16, 17, 18, 19, 20, 21, 22, 23, 24, 25, 26, 27, 28] rfl rfl 0 rfl rfl) rfl rfl hl.1 rfl (lv_room (Nat.le_of_ble_eq_true rfl)) dL_sets_130 ⟨Nat.le_of_ble_eq_true rfl, Nat.le_of_ble_eq_true rfl⟩) hP hD hS hA [0, 1, 2, 3, 4, 5, 6, 7, 8, 9, 10, 11, 12, 13, 14, 15, 16, 17, 18, 19, 20, 21, 22, 23, 24, 25, 26, 27, 28] [] rfl rfl rfl (by decide) (fun E_16 ce_14 q_15 H locs x_13 hP hD hS h71 h72 h73 => ?_) (fun v_12 u_11 H locs r_10 hP hD hS => ?_)
                    · skip
                      have hP : va_P (dC, dI) vwCl (wP cI cJ cZ q pw co la vo cpar fr cdee use run nC tdue tlat twk nT edue elat ewk nE len cnt tin sp pe slp late srv hv av bd sh sc lt rule now st asl idl idn par div dee) H := hP
                      have hD : va_D A (wP cI cJ cZ q pw co la vo cpar fr cdee use run nC tdue tlat twk nT edue elat ewk nE len cnt tin sp pe slp late srv hv av bd sh sc lt rule now st asl idl idn par div dee) := hD
                      rcases x_13 with ⟨rfl, hc9⟩
                      · skip
                        refine vx_catch (own := RL) (name := xA) hown [⟨0, 133, 134, 43⟩] ⟨0, 133, 139, 45⟩ [⟨0, 133, 144, 47⟩] (by rw [htab]; rfl) (fun z hz => by (simp only [List.mem_cons, List.not_mem_nil, or_false] at hz); rcases hz with rfl; exact Or.inr ⟨by decide, xI, (hts _ (List.mem_of_getElem? (i := 1) rfl)), hY.1⟩) (by decide) (by decide) (hts _ (List.mem_of_getElem? (i := 2) rfl)) (va_Nw.use rfl (hX.1.1 xA (List.mem_of_getElem? (i := 0) rfl))) h71 h72 h73 ?_
                        refine lv_astore (lv' := [(5, .ref q_15), (0, .ref (q 0)), (1, .int (iI 9)), (2, .int (iI x1)), (3, .int (iI x2)), (4, .int (iI 0))]) hx hb dL_sets_139 hl (by decide) rfl (fun ls hl => ?_)
                        refine lv_bipush (v := iI (-82)) hx hb dL_sets_141 (by decide) ?_
                        subst hQ
                        refine W.widen (k := 1) (n := 6) (by decide) (by decide) ?_
                        exact zret_i (W1 := fun _ : Unit => wP cI cJ cZ q pw co la vo cpar fr cdee use run nC tdue tlat twk nT edue elat ewk nE len cnt tin sp pe slp late srv hv av bd sh sc lt rule now st asl idl idn par div dee) () hx hb hr hP hD hS hlocks dL_sets_143 (by exact rfl)
                    obtain ⟨v_17, r_10⟩ := r_10
                    refine ze_i v_17 ?_
                    have r_10 : ((0 ≤ x1 ∧ x1 ≤ 23) ∧ (0 ≤ x2 ∧ x2 ≤ 1000)) := r_10
                    exact absurd r_10 hbad
                  · skip
                    exact absurd c_9 (by decide)
                · skip
                  exact absurd c_8 (by decide)
              · skip
                exact absurd c_7 (by decide)
            · skip
              exact absurd c_6 (by decide)
          · skip
            exact absurd c_5 (by decide)
        · skip
          exact absurd c_4 (by decide)
      · skip
        exact absurd c_3 (by decide)
    · skip
      exact absurd c_2 (by decide)
  · skip
    exact absurd c_1 (by decide)
