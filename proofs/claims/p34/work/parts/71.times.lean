def rmL_times : Room := { frames := 8, cells := 1, slots := 6, locals := 186 }
set_option maxRecDepth 100000 in
set_option maxHeartbeats 4000000 in
theorem kL_times (l : Launch) (dC : Nat → ClassId) (dI : Nat → Nat → Nat) (cI cJ cZ : ClassId) (q : Nat → Nat)  (pw : Int → Int) (co : Int → Int) (la : Int → Int) (vo : Int → Int) (cpar : Int → Int) (fr : Int → Int) (cdee : Int → Int) (use : Int → Int) (run : Int → Int) (nC : Int) (tdue : Int → Int) (tlat : Int → Int) (twk : Int → Int) (nT : Int) (edue : Int → Int) (elat : Int → Int) (ewk : Int → Int) (nE : Int) (len : Int → Int) (cnt : Int) (tin : Int → Int) (sp : Int) (pe : Int) (slp : Int) (late : Int) (srv : Int) (hv : Int → Int) (av : Int) (bd : Int) (sh : Int) (sc : Int → Int) (lt : Int → Int) (rule : Int) (now : Int) (st : Int) (asl : Int) (idl : Int → Int) (idn : Int) (par : Int → Int) (div : Int → Int) (dee : Int → Int) (w : Int → Int) (y od : Int) (K : Int) (hK : 0 ≤ K ∧ K ≤ 100000) (hy : zR y) (hod : zR od) (hI : LJ K pw co la vo cdee use run nC tdue tlat twk nT edue elat ewk nE len cnt tin sp pe slp late srv hv av bd sh rule now st asl idl idn dee w) : zMyi l yL_times wsL_times rmL_times (dC, dI) (zT cI cJ cZ) (wPW cI cJ cZ q pw co la vo cpar fr cdee use run nC tdue tlat twk nT edue elat ewk nE len cnt tin sp pe slp late srv hv av bd sh sc lt rule now st asl idl idn par div dee w) [.ref (q 0), .ref (q 29), .int (iI y), .int (iI od)] (fun (r9 : Int) (u9 : (Int → Int) × (Int → Int) × (Int → Int) × Int × (Int → Int) × (Int → Int) × (Int → Int) × Int × (Int → Int) × Int × Int × Int × (Int → Int) × Int × (Int → Int) × Int × (Int → Int)) => r9 = 1 ∧ (LJ (K + 200) pw co la vo cdee use (u9.2.2.2.2.2.2.2.2.1) nC (u9.1) (u9.2.1) (u9.2.2.1) (u9.2.2.2.1) (u9.2.2.2.2.1) (u9.2.2.2.2.2.1) (u9.2.2.2.2.2.2.1) (u9.2.2.2.2.2.2.2.1) (u9.2.2.2.2.2.2.2.2.2.2.2.2.2.2.1) (u9.2.2.2.2.2.2.2.2.2.2.2.2.2.2.2.1) tin (u9.2.2.2.2.2.2.2.2.2.2.1) (u9.2.2.2.2.2.2.2.2.2.2.2.1) slp late srv (u9.2.2.2.2.2.2.2.2.2.2.2.2.2.2.2.2) av bd sh rule now (u9.2.2.2.2.2.2.2.2.2.1) asl (u9.2.2.2.2.2.2.2.2.2.2.2.2.1) (u9.2.2.2.2.2.2.2.2.2.2.2.2.2.1) dee w)) (fun u9 : (Int → Int) × (Int → Int) × (Int → Int) × Int × (Int → Int) × (Int → Int) × (Int → Int) × Int × (Int → Int) × Int × Int × Int × (Int → Int) × Int × (Int → Int) × Int × (Int → Int) => wPW cI cJ cZ q pw co la vo cpar fr cdee use (u9.2.2.2.2.2.2.2.2.1) nC (u9.1) (u9.2.1) (u9.2.2.1) (u9.2.2.2.1) (u9.2.2.2.2.1) (u9.2.2.2.2.2.1) (u9.2.2.2.2.2.2.1) (u9.2.2.2.2.2.2.2.1) (u9.2.2.2.2.2.2.2.2.2.2.2.2.2.2.1) (u9.2.2.2.2.2.2.2.2.2.2.2.2.2.2.2.1) tin (u9.2.2.2.2.2.2.2.2.2.2.1) (u9.2.2.2.2.2.2.2.2.2.2.2.1) slp late srv (u9.2.2.2.2.2.2.2.2.2.2.2.2.2.2.2.2) av bd sh sc lt rule now (u9.2.2.2.2.2.2.2.2.2.1) asl (u9.2.2.2.2.2.2.2.2.2.2.2.2.1) (u9.2.2.2.2.2.2.2.2.2.2.2.2.2.1) par div dee w) := by
  refine zentz_i (cc := cL_times) (maxL := 18) (ret := (some .boolean)) (by decide +kernel) rfl (Nat.le_of_ble_eq_true rfl) ?_
  intro p e s m below meth c A ls htr hY hX hE hP hK hA hD hS hl
  obtain ⟨hx, hb, hr, hml, hown, hts, hlocks, hmn⟩ := hE
  have hinX7 : ∀ w ∈ u_ws RX7 TX7 13, w ∈ wsL_times := by decide +kernel
  have hinX4 : ∀ w ∈ u_ws RX4 TX4 6, w ∈ wsL_times := by decide +kernel
  have hinX0 : ∀ w ∈ u_ws RX0 TX0 4, w ∈ wsL_times := by decide +kernel
  have hinX3 : ∀ w ∈ u_ws RX3 TX3 4, w ∈ wsL_times := by decide +kernel
  have hinX1 : ∀ w ∈ u_ws RX1 TX1 6, w ∈ wsL_times := by decide +kernel
  have hinX6 : ∀ w ∈ u_ws RX6 TX6 3, w ∈ wsL_times := by decide +kernel
  have hinX2 : ∀ w ∈ u_ws RX2 TX2 2, w ∈ wsL_times := by decide +kernel
  have hl : lv_has ls 18 [(0, .ref (q 0)), (1, .ref (q 29)), (2, .int (iI y)), (3, .int (iI od))] := hl
  refine z_gen (fun Q hQ => ?_)
  obtain ⟨⟨hpw, hco, hla, hc0, hl0⟩, ⟨hnC1, hu0, huse, hrun, hcd, hvo, hd0, hde⟩, ⟨hrl, hhv, hid, hel⟩, hti, hsb, hw0, hw4, hw8⟩ := id hI
  obtain ⟨i1, i2, i3, i4, i5, i6, i7, i8, i9, i10, i11, i12, i13, i14, i15, i16, i17⟩ := id hti
  have hnC : 1 ≤ nC ∧ nC ≤ 8 := by omega
  have hcp : ∀ c : Int, 1 ≤ c → c < nC → 0 ≤ cpar c ∧ cpar c < c := fun c h1 h2 => absurd h2 (by omega)
  have hpp : ∀ c : Int, 1 ≤ c → c < nC → par c = cpar c := fun c h1 h2 => absurd h2 (by omega)
  have hdd : ∀ c : Int, 1 ≤ c → c < nC → dee c = cdee c := fun c h1 h2 => absurd h2 (by omega)
  have hdz := dzM_r (par := par) (use := use) hvo hde hnC
  have htdl : ∀ k : Int, 0 ≤ k → k < nT → tdue k ≤ tlat k := fun k h1 h2 => (i14 k h1 h2).2
  have htnl : ∀ k : Int, 0 ≤ k → k < nT → now ≤ tlat k := fun k h1 h2 => (i14 k h1 h2).1
  have hn8 := nx_ll i5 i6 i4
  have hp0 := hpw 0 (by omega) (by omega)
  have hls := hla st (by omega) (by omega)
  have hml9 := mul_r hp0 hls
  refine lv_iload_n hx hb dL_times_0 rfl (lv_at hl 2 rfl) ?_
  refine lv_bipush (v := iI 8) hx hb dL_times_1 (by decide) ?_
  refine zc_pi (va_runS (As := [.int (iI y), .int (iI 8)]) (rest := []) ⟨hx, hb, hml, hown, hts⟩ (kL_some l dC dI cI cJ cZ y 8 (by first | assumption | omega | exact b2i_01 _ | exact shr_r _ _) (by first | assumption | omega | exact b2i_01 _ | exact shr_r _ _)) (va_cwS 2 hts gL_times_L_some rfl rfl rfl (by decide +kernel) ⟨Nat.le_of_ble_eq_true rfl, Nat.le_of_ble_eq_true rfl⟩) (zqS hK hP [] rfl) rfl rfl hl.1 rfl (lv_room (Nat.le_of_ble_eq_true rfl)) dL_times_3 ⟨Nat.le_of_ble_eq_true rfl, Nat.le_of_ble_eq_true rfl⟩) ?_
  have e_1 := sm_r y (show (0 : Int) < 8 by decide)
  refine lv_istore (lv' := [(4, .int (iI (smZ y 8))), (0, .ref (q 0)), (1, .ref (q 29)), (2, .int (iI y)), (3, .int (iI od))]) hx hb dL_times_6 hl (by decide) rfl (fun ls hl => ?_)
  refine lv_aload_n hx hb dL_times_8 rfl (lv_at hl 1 rfl) ?_
  refine zc_pi (va_runV (As := []) (rest := []) ⟨hx, hb, hml, hown, hts⟩ (kX7_state l dC dI cI cJ cZ q pw co la vo cpar fr cdee use run nC tdue tlat twk nT edue elat ewk nE len cnt tin sp pe slp late srv hv av bd sh sc lt rule now st asl idl idn par div dee) (cwV 0 hts gL_times_X7_state rfl rfl rfl (by decide +kernel) ⟨Nat.le_of_ble_eq_true rfl, Nat.le_of_ble_eq_true rfl⟩) (zqV hK hP [0, 1, 2, 3, 4, 5, 6, 7, 8, 9, 10, 11, 12, 13, 14, 15, 16, 17, 18, 19, 20, 21, 22, 23, 24, 25, 26, 27, 28] rfl 0 rfl rfl) rfl rfl hl.1 rfl (lv_room (Nat.le_of_ble_eq_true rfl)) dL_times_9 ⟨Nat.le_of_ble_eq_true rfl, Nat.le_of_ble_eq_true rfl⟩) ?_
  refine lv_istore (lv' := [(5, .int (iI st)), (4, .int (iI (smZ y 8))), (0, .ref (q 0)), (1, .ref (q 29)), (2, .int (iI y)), (3, .int (iI od))]) hx hb dL_times_12 hl (by decide) rfl (fun ls hl => ?_)
  refine lv_aload_n hx hb dL_times_14 rfl (lv_at hl 2 rfl) ?_
  refine zc_pl (va_runV (As := []) (rest := []) ⟨hx, hb, hml, hown, hts⟩ (kX7_spent l dC dI cI cJ cZ q pw co la vo cpar fr cdee use run nC tdue tlat twk nT edue elat ewk nE len cnt tin sp pe slp late srv hv av bd sh sc lt rule now st asl idl idn par div dee) (cwV 0 hts gL_times_X7_spent rfl rfl rfl (by decide +kernel) ⟨Nat.le_of_ble_eq_true rfl, Nat.le_of_ble_eq_true rfl⟩) (zqV hK hP [0, 1, 2, 3, 4, 5, 6, 7, 8, 9, 10, 11, 12, 13, 14, 15, 16, 17, 18, 19, 20, 21, 22, 23, 24, 25, 26, 27, 28] rfl 0 rfl rfl) rfl rfl hl.1 rfl (lv_room (Nat.le_of_ble_eq_true rfl)) dL_times_15 ⟨Nat.le_of_ble_eq_true rfl, Nat.le_of_ble_eq_true rfl⟩) ?_
  refine lv_lstore (lv' := [(6, .long (lI sp)), (5, .int (iI st)), (4, .int (iI (smZ y 8))), (0, .ref (q 0)), (1, .ref (q 29)), (2, .int (iI y)), (3, .int (iI od))]) hx hb dL_times_18 hl (by decide) rfl (fun ls hl => ?_)
  refine lv_aload_n hx hb dL_times_20 rfl (lv_at hl 3 rfl) ?_
  refine zc_l (va_runS (As := [.ref (q 0)]) (rest := []) ⟨hx, hb, hml, hown, hts⟩ (kL_all l dC dI cI cJ cZ q pw co la vo cpar fr cdee use run nC tdue tlat twk nT edue elat ewk nE len cnt tin sp pe slp late srv hv av bd sh sc lt rule now st asl idl idn par div dee (by first | assumption | omega | exact b2i_01 _ | exact shr_r _ _) (by first | assumption | omega | exact b2i_01 _ | exact shr_r _ _) (by first | assumption | omega | exact b2i_01 _ | exact shr_r _ _) (by first | assumption | omega | exact b2i_01 _ | exact shr_r _ _) (by first | assumption | omega | exact b2i_01 _ | exact shr_r _ _) (by first | assumption | omega | exact b2i_01 _ | exact shr_r _ _) (by first | assumption | omega | exact b2i_01 _ | exact shr_r _ _) (by first | assumption | omega | exact b2i_01 _ | exact shr_r _ _) (by first | assumption | omega | exact b2i_01 _ | exact shr_r _ _) (by first | assumption | omega | exact b2i_01 _ | exact shr_r _ _) (by first | assumption | omega | exact b2i_01 _ | exact shr_r _ _) (by first | assumption | omega | exact b2i_01 _ | exact shr_r _ _) (by first | assumption | omega | exact b2i_01 _ | exact shr_r _ _) (by first | assumption | omega | exact b2i_01 _ | exact shr_r _ _) (by first | assumption | omega | exact b2i_01 _ | exact shr_r _ _) (by first | assumption | omega | exact b2i_01 _ | exact shr_r _ _) (by first | assumption | omega | exact b2i_01 _ | exact shr_r _ _) (by first | assumption | omega | exact b2i_01 _ | exact shr_r _ _) (by first | assumption | omega | exact b2i_01 _ | exact shr_r _ _) (by first | assumption | omega | exact b2i_01 _ | exact shr_r _ _) (by first | assumption | omega | exact b2i_01 _ | exact shr_r _ _) s.heap.size) (va_cwS 1 hts gL_times_L_all rfl rfl rfl (by decide +kernel) ⟨Nat.le_of_ble_eq_true rfl, Nat.le_of_ble_eq_true rfl⟩) (zpS hK hP hD [0, 1, 2, 3, 4, 5, 6, 7, 8, 9, 10, 11, 12, 13, 14, 15, 16, 17, 18, 19, 20, 21, 22, 23, 24, 25, 26, 27, 28] rfl rfl) rfl rfl hl.1 rfl (lv_room (Nat.le_of_ble_eq_true rfl)) dL_times_21 ⟨Nat.le_of_ble_eq_true rfl, Nat.le_of_ble_eq_true rfl⟩) hP hD hS hA [0, 1, 2, 3, 4, 5, 6, 7, 8, 9, 10, 11, 12, 13, 14, 15, 16, 17, 18, 19, 20, 21, 22, 23, 24, 25, 26, 27, 28] [29] rfl rfl rfl (by decide) (fun v_4 u_3 H locs r_2 hP hD hS => ?_)
  obtain ⟨runx_5, rfl⟩ : ∃ z, z = u_3 := ⟨_, rfl⟩
  obtain ⟨v_6, r_2⟩ := r_2
  refine ze_l v_6 ?_
  have r_2 : tfZ runx_5 := r_2
  have hP : va_P (dC, dI) vwCl (wPW cI cJ cZ q pw co la vo cpar fr cdee use runx_5 nC tdue tlat twk nT edue elat ewk nE len cnt tin sp pe slp late srv hv av bd sh sc lt rule now st asl idl idn par div dee w) H := hP.sub [1, 2, 3, 4, 5, 6, 7, 8, 9, 10, 11, 12, 13, 14, 15, 16, 17, 18, 19, 20, 21, 22, 23, 24, 25, 26, 27, 28, 29, 0] (z_fm rfl)
  have hD : va_D A (wPW cI cJ cZ q pw co la vo cpar fr cdee use runx_5 nC tdue tlat twk nT edue elat ewk nE len cnt tin sp pe slp late srv hv av bd sh sc lt rule now st asl idl idn par div dee w) := hD.sub [1, 2, 3, 4, 5, 6, 7, 8, 9, 10, 11, 12, 13, 14, 15, 16, 17, 18, 19, 20, 21, 22, 23, 24, 25, 26, 27, 28, 29, 0] (by decide) rfl
  have hrun9 := r_2
  have hI5 := lj_run hI hrun9
  refine lv_lstore (lv' := [(8, .long (lI (alZ pw co la vo use nC tdue tlat nT tin sp slp late srv av bd sh now st par dee))), (6, .long (lI sp)), (5, .int (iI st)), (4, .int (iI (smZ y 8))), (0, .ref (q 0)), (1, .ref (q 29)), (2, .int (iI y)), (3, .int (iI od))]) hx hb dL_times_24 hl (by decide) rfl (fun ls hl => ?_)
  refine lv_aload_n hx hb dL_times_26 rfl (lv_at hl 4 rfl) ?_
  refine zc_pi (va_runV (As := []) (rest := []) ⟨hx, hb, hml, hown, hts⟩ (kX7_now l dC dI cI cJ cZ q pw co la vo cpar fr cdee use runx_5 nC tdue tlat twk nT edue elat ewk nE len cnt tin sp pe slp late srv hv av bd sh sc lt rule now st asl idl idn par div dee) (cwV 0 hts gL_times_X7_now rfl rfl rfl (by decide +kernel) ⟨Nat.le_of_ble_eq_true rfl, Nat.le_of_ble_eq_true rfl⟩) (zqV hK hP [0, 1, 2, 3, 4, 5, 6, 7, 8, 9, 10, 11, 12, 13, 14, 15, 16, 17, 18, 19, 20, 21, 22, 23, 24, 25, 26, 27, 28] rfl 0 rfl rfl) rfl rfl hl.1 rfl (lv_room (Nat.le_of_ble_eq_true rfl)) dL_times_27 ⟨Nat.le_of_ble_eq_true rfl, Nat.le_of_ble_eq_true rfl⟩) ?_
  have L56 : ∀ (t1 : Int), (-5 ≤ t1 ∧ t1 ≤ 1010) → ∀ (H : Heap) (locs : List Loc), va_P (dC, dI) vwCl (wPW cI cJ cZ q pw co la vo cpar fr cdee use runx_5 nC tdue tlat twk nT edue elat ewk nE len cnt tin sp pe slp late srv hv av bd sh sc lt rule now st asl idl idn par div dee w) H → va_D A (wPW cI cJ cZ q pw co la vo cpar fr cdee use runx_5 nC tdue tlat twk nT edue elat ewk nE len cnt tin sp pe slp late srv hv av bd sh sc lt rule now st asl idl idn par div dee w) → va_S A s.heap H locs → ∀ ls : Array Slot, lv_has ls 18 [(8, .long (lI (alZ pw co la vo use nC tdue tlat nT tin sp slp late srv av bd sh now st par dee))), (6, .long (lI sp)), (5, .int (iI st)), (4, .int (iI (smZ y 8))), (0, .ref (q 0)), (1, .ref (q 29)), (2, .int (iI y)), (3, .int (iI od))] → W p l e rmL_times s m ([.ref (q 0), .ref (q 29), .int (iI y), .int (iI od)] : List Value).toArray below meth c H locs 0 0 Q (F0 m 56 ls [.int (iI t1), .int (iI now)]) := by
    intro t1 ht1 H locs hP hD hS ls hl
    refine zi_add hx hb dL_times_56 ?_
    refine lv_istore (lv' := [(10, .int (iI (now + t1))), (8, .long (lI (alZ pw co la vo use nC tdue tlat nT tin sp slp late srv av bd sh now st par dee))), (6, .long (lI sp)), (5, .int (iI st)), (4, .int (iI (smZ y 8))), (0, .ref (q 0)), (1, .ref (q 29)), (2, .int (iI y)), (3, .int (iI od))]) hx hb dL_times_57 hl (by decide) rfl (fun ls hl => ?_)
    have L88 : ∀ (wk1 : Int), (-3 ≤ wk1 ∧ wk1 ≤ 60) → ∀ (H : Heap) (locs : List Loc), va_P (dC, dI) vwCl (wPW cI cJ cZ q pw co la vo cpar fr cdee use runx_5 nC tdue tlat twk nT edue elat ewk nE len cnt tin sp pe slp late srv hv av bd sh sc lt rule now st asl idl idn par div dee w) H → va_D A (wPW cI cJ cZ q pw co la vo cpar fr cdee use runx_5 nC tdue tlat twk nT edue elat ewk nE len cnt tin sp pe slp late srv hv av bd sh sc lt rule now st asl idl idn par div dee w) → va_S A s.heap H locs → ∀ ls : Array Slot, lv_has ls 18 [(10, .int (iI (now + t1))), (8, .long (lI (alZ pw co la vo use nC tdue tlat nT tin sp slp late srv av bd sh now st par dee))), (6, .long (lI sp)), (5, .int (iI st)), (4, .int (iI (smZ y 8))), (0, .ref (q 0)), (1, .ref (q 29)), (2, .int (iI y)), (3, .int (iI od))] → W p l e rmL_times s m ([.ref (q 0), .ref (q 29), .int (iI y), .int (iI od)] : List Value).toArray below meth c H locs 0 0 Q (F0 m 88 ls [.int (iI wk1)]) := by
      intro wk1 hwk1 H locs hP hD hS ls hl
      refine lv_istore (lv' := [(11, .int (iI wk1)), (10, .int (iI (now + t1))), (8, .long (lI (alZ pw co la vo use nC tdue tlat nT tin sp slp late srv av bd sh now st par dee))), (6, .long (lI sp)), (5, .int (iI st)), (4, .int (iI (smZ y 8))), (0, .ref (q 0)), (1, .ref (q 29)), (2, .int (iI y)), (3, .int (iI od))]) hx hb dL_times_88 hl (by decide) rfl (fun ls hl => ?_)
      refine lv_aload_n hx hb dL_times_90 rfl (lv_at hl 6 rfl) ?_
      refine zc_pi (va_runV (As := []) (rest := []) ⟨hx, hb, hml, hown, hts⟩ (kX7_timers l dC dI cI cJ cZ q pw co la vo cpar fr cdee use runx_5 nC tdue tlat twk nT edue elat ewk nE len cnt tin sp pe slp late srv hv av bd sh sc lt rule now st asl idl idn par div dee) (cwV 0 hts gL_times_X7_timers rfl rfl rfl (by decide +kernel) ⟨Nat.le_of_ble_eq_true rfl, Nat.le_of_ble_eq_true rfl⟩) (zqV hK hP [0, 1, 2, 3, 4, 5, 6, 7, 8, 9, 10, 11, 12, 13, 14, 15, 16, 17, 18, 19, 20, 21, 22, 23, 24, 25, 26, 27, 28] rfl 0 rfl rfl) rfl rfl hl.1 rfl (lv_room (Nat.le_of_ble_eq_true rfl)) dL_times_91 ⟨Nat.le_of_ble_eq_true rfl, Nat.le_of_ble_eq_true rfl⟩) ?_
      refine lv_istore (lv' := [(12, .int (iI nT)), (11, .int (iI wk1)), (10, .int (iI (now + t1))), (8, .long (lI (alZ pw co la vo use nC tdue tlat nT tin sp slp late srv av bd sh now st par dee))), (6, .long (lI sp)), (5, .int (iI st)), (4, .int (iI (smZ y 8))), (0, .ref (q 0)), (1, .ref (q 29)), (2, .int (iI y)), (3, .int (iI od))]) hx hb dL_times_94 hl (by decide) rfl (fun ls hl => ?_)
      refine lv_aload_n hx hb dL_times_96 rfl (lv_at hl 7 rfl) ?_
      refine zc_pi (va_runV (As := []) (rest := []) ⟨hx, hb, hml, hown, hts⟩ (kX7_nextWakeup l dC dI cI cJ cZ q pw co la vo cpar fr cdee use runx_5 nC tdue tlat twk nT edue elat ewk nE len cnt tin sp pe slp late srv hv av bd sh sc lt rule now st asl idl idn par div dee (by first | assumption | omega | exact b2i_01 _ | exact shr_r _ _) (by first | assumption | omega | exact b2i_01 _ | exact shr_r _ _) (by first | assumption | omega | exact b2i_01 _ | exact shr_r _ _) (by first | assumption | omega | exact b2i_01 _ | exact shr_r _ _)) (cwV 0 hts gL_times_X7_nextWakeup rfl rfl rfl (by decide +kernel) ⟨Nat.le_of_ble_eq_true rfl, Nat.le_of_ble_eq_true rfl⟩) (zqV hK hP [0, 1, 2, 3, 4, 5, 6, 7, 8, 9, 10, 11, 12, 13, 14, 15, 16, 17, 18, 19, 20, 21, 22, 23, 24, 25, 26, 27, 28] rfl 0 rfl rfl) rfl rfl hl.1 rfl (lv_room (Nat.le_of_ble_eq_true rfl)) dL_times_97 ⟨Nat.le_of_ble_eq_true rfl, Nat.le_of_ble_eq_true rfl⟩) ?_
      refine lv_istore (lv' := [(13, .int (iI (llZ tdue tlat (-1) 1000000000 nT))), (12, .int (iI nT)), (11, .int (iI wk1)), (10, .int (iI (now + t1))), (8, .long (lI (alZ pw co la vo use nC tdue tlat nT tin sp slp late srv av bd sh now st par dee))), (6, .long (lI sp)), (5, .int (iI st)), (4, .int (iI (smZ y 8))), (0, .ref (q 0)), (1, .ref (q 29)), (2, .int (iI y)), (3, .int (iI od))]) hx hb dL_times_100 hl (by decide) rfl (fun ls hl => ?_)
      have L142 : ∀ (bb : Int), ((bb = 1 ∧ ¬ ((now ≤ now + t1 ∧ now + t1 ≤ now + 1000) ∧ (1 ≤ wk1 ∧ wk1 ≤ 50))) ∨ (bb = 0 ∧ ((now ≤ now + t1 ∧ now + t1 ≤ now + 1000) ∧ (1 ≤ wk1 ∧ wk1 ≤ 50)))) → ∀ (H : Heap) (locs : List Loc), va_P (dC, dI) vwCl (wPW cI cJ cZ q pw co la vo cpar fr cdee use runx_5 nC tdue tlat twk nT edue elat ewk nE len cnt tin sp pe slp late srv hv av bd sh sc lt rule now st asl idl idn par div dee w) H → va_D A (wPW cI cJ cZ q pw co la vo cpar fr cdee use runx_5 nC tdue tlat twk nT edue elat ewk nE len cnt tin sp pe slp late srv hv av bd sh sc lt rule now st asl idl idn par div dee w) → va_S A s.heap H locs → ∀ ls : Array Slot, lv_has ls 18 [(13, .int (iI (llZ tdue tlat (-1) 1000000000 nT))), (12, .int (iI nT)), (11, .int (iI wk1)), (10, .int (iI (now + t1))), (8, .long (lI (alZ pw co la vo use nC tdue tlat nT tin sp slp late srv av bd sh now st par dee))), (6, .long (lI sp)), (5, .int (iI st)), (4, .int (iI (smZ y 8))), (0, .ref (q 0)), (1, .ref (q 29)), (2, .int (iI y)), (3, .int (iI od))] → W p l e rmL_times s m ([.ref (q 0), .ref (q 29), .int (iI y), .int (iI od)] : List Value).toArray below meth c H locs 0 0 Q (F0 m 142 ls [.int (iI bb)]) := by
        intro bb hbb H locs hP hD hS ls hl
        refine lv_istore (lv' := [(14, .int (iI bb)), (13, .int (iI (llZ tdue tlat (-1) 1000000000 nT))), (12, .int (iI nT)), (11, .int (iI wk1)), (10, .int (iI (now + t1))), (8, .long (lI (alZ pw co la vo use nC tdue tlat nT tin sp slp late srv av bd sh now st par dee))), (6, .long (lI sp)), (5, .int (iI st)), (4, .int (iI (smZ y 8))), (0, .ref (q 0)), (1, .ref (q 29)), (2, .int (iI y)), (3, .int (iI od))]) hx hb dL_times_142 hl (by decide) rfl (fun ls hl => ?_)
        refine lv_iload hx hb dL_times_144 (lv_at hl 8 rfl) ?_
        refine lv_iconst (v := iI 4) hx hb dL_times_146 rfl ?_
        refine zi_cge (tgt := 342) hx hb (by omega) (by decide) dL_times_147 (by decide) (fun c_7 => ?_) (fun c_7 => ?_)
        · skip
          refine lv_iload hx hb dL_times_342 (lv_at hl 8 rfl) ?_
          refine lv_bipush (v := iI 7) hx hb dL_times_344 (by decide) ?_
          refine zi_cge (tgt := 412) hx hb (by omega) (by decide) dL_times_346 (by decide) (fun c_8 => ?_) (fun c_8 => ?_)
          · skip
            have L437 : ∀ (hh1 : Int), (zR hh1) → ∀ (H : Heap) (locs : List Loc), va_P (dC, dI) vwCl (wPW cI cJ cZ q pw co la vo cpar fr cdee use runx_5 nC tdue tlat twk nT edue elat ewk nE len cnt tin sp pe slp late srv hv av bd sh sc lt rule now st asl idl idn par div dee w) H → va_D A (wPW cI cJ cZ q pw co la vo cpar fr cdee use runx_5 nC tdue tlat twk nT edue elat ewk nE len cnt tin sp pe slp late srv hv av bd sh sc lt rule now st asl idl idn par div dee w) → va_S A s.heap H locs → ∀ ls : Array Slot, lv_has ls 18 [(14, .int (iI bb)), (13, .int (iI (llZ tdue tlat (-1) 1000000000 nT))), (12, .int (iI nT)), (11, .int (iI wk1)), (10, .int (iI (now + t1))), (8, .long (lI (alZ pw co la vo use nC tdue tlat nT tin sp slp late srv av bd sh now st par dee))), (6, .long (lI sp)), (5, .int (iI st)), (4, .int (iI (smZ y 8))), (0, .ref (q 0)), (1, .ref (q 29)), (2, .int (iI y)), (3, .int (iI od))] → W p l e rmL_times s m ([.ref (q 0), .ref (q 29), .int (iI y), .int (iI od)] : List Value).toArray below meth c H locs 0 0 Q (F0 m 437 ls [.int (iI hh1)]) := by
              intro hh1 hhh1 H locs hP hD hS ls hl
              refine lv_istore (lv' := [(15, .int (iI hh1)), (14, .int (iI bb)), (13, .int (iI (llZ tdue tlat (-1) 1000000000 nT))), (12, .int (iI nT)), (11, .int (iI wk1)), (10, .int (iI (now + t1))), (8, .long (lI (alZ pw co la vo use nC tdue tlat nT tin sp slp late srv av bd sh now st par dee))), (6, .long (lI sp)), (5, .int (iI st)), (4, .int (iI (smZ y 8))), (0, .ref (q 0)), (1, .ref (q 29)), (2, .int (iI y)), (3, .int (iI od))]) hx hb dL_times_437 hl (by decide) rfl (fun ls hl => ?_)
              have L468 : ∀ (en1 : Int), (zR en1) → ∀ (H : Heap) (locs : List Loc), va_P (dC, dI) vwCl (wPW cI cJ cZ q pw co la vo cpar fr cdee use runx_5 nC tdue tlat twk nT edue elat ewk nE len cnt tin sp pe slp late srv hv av bd sh sc lt rule now st asl idl idn par div dee w) H → va_D A (wPW cI cJ cZ q pw co la vo cpar fr cdee use runx_5 nC tdue tlat twk nT edue elat ewk nE len cnt tin sp pe slp late srv hv av bd sh sc lt rule now st asl idl idn par div dee w) → va_S A s.heap H locs → ∀ ls : Array Slot, lv_has ls 18 [(15, .int (iI hh1)), (14, .int (iI bb)), (13, .int (iI (llZ tdue tlat (-1) 1000000000 nT))), (12, .int (iI nT)), (11, .int (iI wk1)), (10, .int (iI (now + t1))), (8, .long (lI (alZ pw co la vo use nC tdue tlat nT tin sp slp late srv av bd sh now st par dee))), (6, .long (lI sp)), (5, .int (iI st)), (4, .int (iI (smZ y 8))), (0, .ref (q 0)), (1, .ref (q 29)), (2, .int (iI y)), (3, .int (iI od))] → W p l e rmL_times s m ([.ref (q 0), .ref (q 29), .int (iI y), .int (iI od)] : List Value).toArray below meth c H locs 0 0 Q (F0 m 468 ls [.int (iI en1)]) := by
                intro en1 hen1 H locs hP hD hS ls hl
                refine lv_istore (lv' := [(16, .int (iI en1)), (15, .int (iI hh1)), (14, .int (iI bb)), (13, .int (iI (llZ tdue tlat (-1) 1000000000 nT))), (12, .int (iI nT)), (11, .int (iI wk1)), (10, .int (iI (now + t1))), (8, .long (lI (alZ pw co la vo use nC tdue tlat nT tin sp slp late srv av bd sh now st par dee))), (6, .long (lI sp)), (5, .int (iI st)), (4, .int (iI (smZ y 8))), (0, .ref (q 0)), (1, .ref (q 29)), (2, .int (iI y)), (3, .int (iI od))]) hx hb dL_times_468 hl (by decide) rfl (fun ls hl => ?_)
                refine lv_aload_n hx hb dL_times_470 rfl (lv_at hl 11 rfl) ?_
                refine lv_bipush (v := iI 9) hx hb dL_times_471 (by decide) ?_
                refine lv_iload hx hb dL_times_473 (lv_at hl 1 rfl) ?_
                refine lv_iload hx hb dL_times_475 (lv_at hl 0 rfl) ?_
                refine lv_iconst (v := iI 0) hx hb dL_times_477 rfl ?_
                by_cases c_9 : (0 ≤ hh1 ∧ hh1 ≤ 23) ∧ (0 ≤ en1 ∧ en1 ≤ 1000)
                · skip
                  have hhk := hhv hh1 (by omega) (by omega)
                  refine zc_i (vx_runSW (As := [.ref (q 0), .int (iI 9), .int (iI hh1), .int (iI en1), .int (iI 0)]) (rest := []) ⟨hx, hb, hml, hown, hts⟩ (kL_sets_ok9 l dC dI cI cJ cZ q pw co la vo cpar fr cdee use runx_5 nC tdue tlat twk nT edue elat ewk nE len cnt tin sp pe slp late srv hv av bd sh sc lt rule now st asl idl idn par div dee hh1 en1 (by first | assumption | omega | exact b2i_01 _ | exact shr_r _ _) (by first | assumption | omega | exact b2i_01 _ | exact shr_r _ _) (by first | assumption | omega | exact b2i_01 _ | exact shr_r _ _) H.size) (vx_cwSW 5 hts gL_times_L_sets rfl rfl rfl (by decide +kernel) ⟨Nat.le_of_ble_eq_true rfl, Nat.le_of_ble_eq_true rfl⟩) (zpS hK hP hD [0, 1, 2, 3, 4, 5, 6, 7, 8, 9, 10, 11, 12, 13, 14, 15, 16, 17, 18, 19, 20, 21, 22, 23, 24, 25, 26, 27, 28] rfl rfl) rfl rfl hl.1 rfl (lv_room (Nat.le_of_ble_eq_true rfl)) dL_times_478 ⟨Nat.le_of_ble_eq_true rfl, Nat.le_of_ble_eq_true rfl⟩) hP hD hS hA [0, 1, 2, 3, 4, 5, 6, 7, 8, 9, 10, 11, 12, 13, 14, 15, 16, 17, 18, 19, 20, 21, 22, 23, 24, 25, 26, 27, 28] [29] rfl rfl rfl (by decide) (fun v_12 u_11 H locs r_10 hP hD hS => ?_)
                  refine ze_i r_10 ?_
                  have hP : va_P (dC, dI) vwCl (wPW cI cJ cZ q pw co la vo cpar fr cdee use runx_5 nC tdue tlat twk nT edue elat ewk nE len cnt tin sp pe slp late srv (uZ hv hh1 en1) av bd sh sc lt rule now st asl idl idn par div dee w) H := hP.sub [1, 2, 3, 4, 5, 6, 7, 8, 9, 10, 11, 12, 13, 14, 15, 16, 17, 18, 19, 20, 21, 22, 23, 24, 25, 26, 27, 28, 29, 0] (z_fm rfl)
                  have hD : va_D A (wPW cI cJ cZ q pw co la vo cpar fr cdee use runx_5 nC tdue tlat twk nT edue elat ewk nE len cnt tin sp pe slp late srv (uZ hv hh1 en1) av bd sh sc lt rule now st asl idl idn par div dee w) := hD.sub [1, 2, 3, 4, 5, 6, 7, 8, 9, 10, 11, 12, 13, 14, 15, 16, 17, 18, 19, 20, 21, 22, 23, 24, 25, 26, 27, 28, 29, 0] (by decide) rfl
                  refine lv_istore (lv' := [(17, .int (iI (hv hh1))), (16, .int (iI en1)), (15, .int (iI hh1)), (14, .int (iI bb)), (13, .int (iI (llZ tdue tlat (-1) 1000000000 nT))), (12, .int (iI nT)), (11, .int (iI wk1)), (10, .int (iI (now + t1))), (8, .long (lI (alZ pw co la vo use nC tdue tlat nT tin sp slp late srv av bd sh now st par dee))), (6, .long (lI sp)), (5, .int (iI st)), (4, .int (iI (smZ y 8))), (0, .ref (q 0)), (1, .ref (q 29)), (2, .int (iI y)), (3, .int (iI od))]) hx hb dL_times_481 hl (by decide) rfl (fun ls hl => ?_)
                  refine lv_iload hx hb dL_times_483 (lv_at hl 2 rfl) ?_
                  refine zi_flt (tgt := 508) hx hb (by omega) dL_times_485 (by decide) (fun c_13 => ?_) (fun c_13 => ?_)
                  · skip
                    exact absurd c_13 (by omega)
                  · skip
                    refine lv_iload hx hb dL_times_488 (lv_at hl 2 rfl) ?_
                    refine lv_bipush (v := iI 23) hx hb dL_times_490 (by decide) ?_
                    refine zi_cgt (tgt := 508) hx hb (by omega) (by decide) dL_times_492 (by decide) (fun c_14 => ?_) (fun c_14 => ?_)
                    · skip
                      exact absurd c_14 (by omega)
                    · skip
                      refine lv_iload hx hb dL_times_495 (lv_at hl 1 rfl) ?_
                      refine zi_flt (tgt := 508) hx hb (by omega) dL_times_497 (by decide) (fun c_15 => ?_) (fun c_15 => ?_)
                      · skip
                        exact absurd c_15 (by omega)
                      · skip
                        refine lv_iload hx hb dL_times_500 (lv_at hl 1 rfl) ?_
                        refine lv_sipush (v := iI 1000) hx hb dL_times_502 (by decide) ?_
                        refine zi_cle (tgt := 518) hx hb (by omega) (by decide) dL_times_505 (by decide) (fun c_16 => ?_) (fun c_16 => ?_)
                        · skip
                          refine lv_iload hx hb dL_times_518 (lv_at hl 0 rfl) ?_
                          refine zi_flt (tgt := 561) hx hb (by omega) dL_times_520 (by decide) (fun c_17 => ?_) (fun c_17 => ?_)
                          · skip
                            exact absurd c_17 (by omega)
                          · skip
                            refine lv_iload hx hb dL_times_523 (lv_at hl 0 rfl) ?_
                            refine lv_sipush (v := iI 1000) hx hb dL_times_525 (by decide) ?_
                            refine zi_cgt (tgt := 561) hx hb (by omega) (by decide) dL_times_528 (by decide) (fun c_18 => ?_) (fun c_18 => ?_)
                            · skip
                              exact absurd c_18 (by omega)
                            · skip
                              refine lv_aload_n hx hb dL_times_531 rfl (lv_at hl 12 rfl) ?_
                              refine lv_bipush (v := iI 9) hx hb dL_times_532 (by decide) ?_
                              refine lv_iload hx hb dL_times_534 (lv_at hl 2 rfl) ?_
                              refine lv_iload hx hb dL_times_536 (lv_at hl 1 rfl) ?_
                              refine lv_iconst (v := iI 0) hx hb dL_times_538 rfl ?_
                              refine zc_i (vx_runSW (As := [.ref (q 0), .int (iI 9), .int (iI hh1), .int (iI en1), .int (iI 0)]) (rest := []) ⟨hx, hb, hml, hown, hts⟩ (kL_sets_ok9 l dC dI cI cJ cZ q pw co la vo cpar fr cdee use runx_5 nC tdue tlat twk nT edue elat ewk nE len cnt tin sp pe slp late srv (uZ hv hh1 en1) av bd sh sc lt rule now st asl idl idn par div dee hh1 en1 (by first | assumption | omega | exact b2i_01 _ | exact shr_r _ _) (by first | assumption | omega | exact b2i_01 _ | exact shr_r _ _) (by first | assumption | omega | exact b2i_01 _ | exact shr_r _ _) H.size) (vx_cwSW 5 hts gL_times_L_sets rfl rfl rfl (by decide +kernel) ⟨Nat.le_of_ble_eq_true rfl, Nat.le_of_ble_eq_true rfl⟩) (zpS hK hP hD [0, 1, 2, 3, 4, 5, 6, 7, 8, 9, 10, 11, 12, 13, 14, 15, 16, 17, 18, 19, 20, 21, 22, 23, 24, 25, 26, 27, 28] rfl rfl) rfl rfl hl.1 rfl (lv_room (Nat.le_of_ble_eq_true rfl)) dL_times_539 ⟨Nat.le_of_ble_eq_true rfl, Nat.le_of_ble_eq_true rfl⟩) hP hD hS hA [0, 1, 2, 3, 4, 5, 6, 7, 8, 9, 10, 11, 12, 13, 14, 15, 16, 17, 18, 19, 20, 21, 22, 23, 24, 25, 26, 27, 28] [29] rfl rfl rfl (by decide) (fun v_21 u_20 H locs r_19 hP hD hS => ?_)
                              refine ze_i r_19 ?_
                              have hP : va_P (dC, dI) vwCl (wPW cI cJ cZ q pw co la vo cpar fr cdee use runx_5 nC tdue tlat twk nT edue elat ewk nE len cnt tin sp pe slp late srv (uZ (uZ hv hh1 en1) hh1 en1) av bd sh sc lt rule now st asl idl idn par div dee w) H := hP.sub [1, 2, 3, 4, 5, 6, 7, 8, 9, 10, 11, 12, 13, 14, 15, 16, 17, 18, 19, 20, 21, 22, 23, 24, 25, 26, 27, 28, 29, 0] (z_fm rfl)
                              have hD : va_D A (wPW cI cJ cZ q pw co la vo cpar fr cdee use runx_5 nC tdue tlat twk nT edue elat ewk nE len cnt tin sp pe slp late srv (uZ (uZ hv hh1 en1) hh1 en1) av bd sh sc lt rule now st asl idl idn par div dee w) := hD.sub [1, 2, 3, 4, 5, 6, 7, 8, 9, 10, 11, 12, 13, 14, 15, 16, 17, 18, 19, 20, 21, 22, 23, 24, 25, 26, 27, 28, 29, 0] (by decide) rfl
                              have hI8 := lj_mono (K2 := K + 200) (lj_harv (lj_harv hI5 (x1 := hh1) (x2 := en1) (by omega)) (x1 := hh1) (x2 := en1) (by omega)) (by omega)
                              refine lv_iload hx hb dL_times_542 (lv_at hl 1 rfl) ?_
                              refine zi_sameN (tgt := 561) hx hb (by exact uZ_s _ _ _) dL_times_544 (by decide) ?_
                              refine lv_aload_n hx hb dL_times_547 rfl (lv_at hl 12 rfl) ?_
                              refine zc_l (va_runS (As := [.ref (q 0)]) (rest := []) ⟨hx, hb, hml, hown, hts⟩ (kL_all l dC dI cI cJ cZ q pw co la vo cpar fr cdee use runx_5 nC tdue tlat twk nT edue elat ewk nE len cnt tin sp pe slp late srv (uZ (uZ hv hh1 en1) hh1 en1) av bd sh sc lt rule now st asl idl idn par div dee (by first | assumption | omega | exact b2i_01 _ | exact shr_r _ _) (by first | assumption | omega | exact b2i_01 _ | exact shr_r _ _) (by first | assumption | omega | exact b2i_01 _ | exact shr_r _ _) (by first | assumption | omega | exact b2i_01 _ | exact shr_r _ _) (by first | assumption | omega | exact b2i_01 _ | exact shr_r _ _) (by first | assumption | omega | exact b2i_01 _ | exact shr_r _ _) (by first | assumption | omega | exact b2i_01 _ | exact shr_r _ _) (by first | assumption | omega | exact b2i_01 _ | exact shr_r _ _) (by first | assumption | omega | exact b2i_01 _ | exact shr_r _ _) (by first | assumption | omega | exact b2i_01 _ | exact shr_r _ _) (by first | assumption | omega | exact b2i_01 _ | exact shr_r _ _) (by first | assumption | omega | exact b2i_01 _ | exact shr_r _ _) (by first | assumption | omega | exact b2i_01 _ | exact shr_r _ _) (by first | assumption | omega | exact b2i_01 _ | exact shr_r _ _) (by first | assumption | omega | exact b2i_01 _ | exact shr_r _ _) (by first | assumption | omega | exact b2i_01 _ | exact shr_r _ _) (by first | assumption | omega | exact b2i_01 _ | exact shr_r _ _) (by first | assumption | omega | exact b2i_01 _ | exact shr_r _ _) (by first | assumption | omega | exact b2i_01 _ | exact shr_r _ _) (by first | assumption | omega | exact b2i_01 _ | exact shr_r _ _) (by first | assumption | omega | exact b2i_01 _ | exact shr_r _ _) H.size) (va_cwS 1 hts gL_times_L_all rfl rfl rfl (by decide +kernel) ⟨Nat.le_of_ble_eq_true rfl, Nat.le_of_ble_eq_true rfl⟩) (zpS hK hP hD [0, 1, 2, 3, 4, 5, 6, 7, 8, 9, 10, 11, 12, 13, 14, 15, 16, 17, 18, 19, 20, 21, 22, 23, 24, 25, 26, 27, 28] rfl rfl) rfl rfl hl.1 rfl (lv_room (Nat.le_of_ble_eq_true rfl)) dL_times_548 ⟨Nat.le_of_ble_eq_true rfl, Nat.le_of_ble_eq_true rfl⟩) hP hD hS hA [0, 1, 2, 3, 4, 5, 6, 7, 8, 9, 10, 11, 12, 13, 14, 15, 16, 17, 18, 19, 20, 21, 22, 23, 24, 25, 26, 27, 28] [29] rfl rfl rfl (by decide) (fun v_24 u_23 H locs r_22 hP hD hS => ?_)
                              obtain ⟨runx_25, rfl⟩ : ∃ z, z = u_23 := ⟨_, rfl⟩
                              obtain ⟨v_26, r_22⟩ := r_22
                              refine ze_l v_26 ?_
                              have r_22 : tfZ runx_25 := r_22
                              have hP : va_P (dC, dI) vwCl (wPW cI cJ cZ q pw co la vo cpar fr cdee use runx_25 nC tdue tlat twk nT edue elat ewk nE len cnt tin sp pe slp late srv (uZ (uZ hv hh1 en1) hh1 en1) av bd sh sc lt rule now st asl idl idn par div dee w) H := hP.sub [1, 2, 3, 4, 5, 6, 7, 8, 9, 10, 11, 12, 13, 14, 15, 16, 17, 18, 19, 20, 21, 22, 23, 24, 25, 26, 27, 28, 29, 0] (z_fm rfl)
                              have hD : va_D A (wPW cI cJ cZ q pw co la vo cpar fr cdee use runx_25 nC tdue tlat twk nT edue elat ewk nE len cnt tin sp pe slp late srv (uZ (uZ hv hh1 en1) hh1 en1) av bd sh sc lt rule now st asl idl idn par div dee w) := hD.sub [1, 2, 3, 4, 5, 6, 7, 8, 9, 10, 11, 12, 13, 14, 15, 16, 17, 18, 19, 20, 21, 22, 23, 24, 25, 26, 27, 28, 29, 0] (by decide) rfl
                              have hrun8 := r_22
                              refine lv_lload hx hb dL_times_551 (lv_at hl 8 rfl) ?_
                              refine zl_sameN (tgt := 561) hx hb (by rfl) dL_times_553 dL_times_554 (by decide) ?_
                              refine lv_iconst (v := iI 1) hx hb dL_times_557 rfl ?_
                              refine lv_goto (tgt := 562) hx hb dL_times_558 (by decide) ?_
                              subst hQ
                              refine W.widen (k := 1) (n := 6) (by decide) (by decide) ?_
                              exact zret_z (W1 := fun u9 : (Int → Int) × (Int → Int) × (Int → Int) × Int × (Int → Int) × (Int → Int) × (Int → Int) × Int × (Int → Int) × Int × Int × Int × (Int → Int) × Int × (Int → Int) × Int × (Int → Int) => wPW cI cJ cZ q pw co la vo cpar fr cdee use (u9.2.2.2.2.2.2.2.2.1) nC (u9.1) (u9.2.1) (u9.2.2.1) (u9.2.2.2.1) (u9.2.2.2.2.1) (u9.2.2.2.2.2.1) (u9.2.2.2.2.2.2.1) (u9.2.2.2.2.2.2.2.1) (u9.2.2.2.2.2.2.2.2.2.2.2.2.2.2.1) (u9.2.2.2.2.2.2.2.2.2.2.2.2.2.2.2.1) tin (u9.2.2.2.2.2.2.2.2.2.2.1) (u9.2.2.2.2.2.2.2.2.2.2.2.1) slp late srv (u9.2.2.2.2.2.2.2.2.2.2.2.2.2.2.2.2) av bd sh sc lt rule now (u9.2.2.2.2.2.2.2.2.2.1) asl (u9.2.2.2.2.2.2.2.2.2.2.2.2.1) (u9.2.2.2.2.2.2.2.2.2.2.2.2.2.1) par div dee w) (tdue, tlat, twk, nT, edue, elat, ewk, nE, runx_25, st, sp, pe, idl, idn, len, cnt, uZ (uZ hv hh1 en1) hh1 en1) hx hb hr hP hD hS hlocks dL_times_562 (by first | decide | omega) (by first | exact ⟨rfl, lj_run hI8 hrun8⟩ | exact ⟨rfl, lj_mono (K2 := K + 200) (lj_run hI hrun8) (by omega)⟩)
                        · skip
                          exact absurd c_16 (by omega)
                · skip
                  refine zc_i (vx_runSW (As := [.ref (q 0), .int (iI 9), .int (iI hh1), .int (iI en1), .int (iI 0)]) (rest := []) ⟨hx, hb, hml, hown, hts⟩ (kL_sets_bad9 l dC dI cI cJ cZ q pw co la vo cpar fr cdee use runx_5 nC tdue tlat twk nT edue elat ewk nE len cnt tin sp pe slp late srv hv av bd sh sc lt rule now st asl idl idn par div dee hh1 en1 (by first | assumption | omega | exact b2i_01 _ | exact shr_r _ _) (by first | assumption | omega | exact b2i_01 _ | exact shr_r _ _) (by first | assumption | omega | exact b2i_01 _ | exact shr_r _ _) htr H.size) (vx_cwSW 5 hts gL_times_L_sets rfl rfl rfl (by decide +kernel) ⟨Nat.le_of_ble_eq_true rfl, Nat.le_of_ble_eq_true rfl⟩) (zyS hY hX hS hA hK hP hD [0, 1, 2, 3, 4, 5, 6, 7, 8, 9, 10, 11, 12, 13, 14, 15, 16, 17, 18, 19, 20, 21, 22, 23, 24, 25, 26, 27, 28] rfl rfl) rfl rfl hl.1 rfl (lv_room (Nat.le_of_ble_eq_true rfl)) dL_times_478 ⟨Nat.le_of_ble_eq_true rfl, Nat.le_of_ble_eq_true rfl⟩) hP hD hS hA [0, 1, 2, 3, 4, 5, 6, 7, 8, 9, 10, 11, 12, 13, 14, 15, 16, 17, 18, 19, 20, 21, 22, 23, 24, 25, 26, 27, 28] [29] rfl rfl rfl (by decide) (fun v_29 u_28 H locs r_27 hP hD hS => ?_)
                  refine ze_i r_27 ?_
                  have hP : va_P (dC, dI) vwCl (wPW cI cJ cZ q pw co la vo cpar fr cdee use runx_5 nC tdue tlat twk nT edue elat ewk nE len cnt tin sp pe slp late srv hv av bd sh sc lt rule now st asl idl idn par div dee w) H := hP.sub [1, 2, 3, 4, 5, 6, 7, 8, 9, 10, 11, 12, 13, 14, 15, 16, 17, 18, 19, 20, 21, 22, 23, 24, 25, 26, 27, 28, 29, 0] (z_fm rfl)
                  have hD : va_D A (wPW cI cJ cZ q pw co la vo cpar fr cdee use runx_5 nC tdue tlat twk nT edue elat ewk nE len cnt tin sp pe slp late srv hv av bd sh sc lt rule now st asl idl idn par div dee w) := hD.sub [1, 2, 3, 4, 5, 6, 7, 8, 9, 10, 11, 12, 13, 14, 15, 16, 17, 18, 19, 20, 21, 22, 23, 24, 25, 26, 27, 28, 29, 0] (by decide) rfl
                  refine lv_istore (lv' := [(17, .int (iI (-82))), (16, .int (iI en1)), (15, .int (iI hh1)), (14, .int (iI bb)), (13, .int (iI (llZ tdue tlat (-1) 1000000000 nT))), (12, .int (iI nT)), (11, .int (iI wk1)), (10, .int (iI (now + t1))), (8, .long (lI (alZ pw co la vo use nC tdue tlat nT tin sp slp late srv av bd sh now st par dee))), (6, .long (lI sp)), (5, .int (iI st)), (4, .int (iI (smZ y 8))), (0, .ref (q 0)), (1, .ref (q 29)), (2, .int (iI y)), (3, .int (iI od))]) hx hb dL_times_481 hl (by decide) rfl (fun ls hl => ?_)
                  refine lv_iload hx hb dL_times_483 (lv_at hl 2 rfl) ?_
                  refine zi_flt (tgt := 508) hx hb (by omega) dL_times_485 (by decide) (fun c_30 => ?_) (fun c_30 => ?_)
                  · skip
                    refine lv_iload hx hb dL_times_508 (lv_at hl 0 rfl) ?_
                    refine lv_bipush (v := iI (-82)) hx hb dL_times_510 (by decide) ?_
                    refine zi_cne (tgt := 561) hx hb (by decide) (by decide) dL_times_512 (by decide) (fun c_31 => ?_) (fun c_31 => ?_)
                    · skip
                      exact absurd c_31 (by decide)
                    · skip
                      refine lv_goto (tgt := 547) hx hb dL_times_515 (by decide) ?_
                      refine lv_aload_n hx hb dL_times_547 rfl (lv_at hl 12 rfl) ?_
                      refine zc_l (va_runS (As := [.ref (q 0)]) (rest := []) ⟨hx, hb, hml, hown, hts⟩ (kL_all l dC dI cI cJ cZ q pw co la vo cpar fr cdee use runx_5 nC tdue tlat twk nT edue elat ewk nE len cnt tin sp pe slp late srv hv av bd sh sc lt rule now st asl idl idn par div dee (by first | assumption | omega | exact b2i_01 _ | exact shr_r _ _) (by first | assumption | omega | exact b2i_01 _ | exact shr_r _ _) (by first | assumption | omega | exact b2i_01 _ | exact shr_r _ _) (by first | assumption | omega | exact b2i_01 _ | exact shr_r _ _) (by first | assumption | omega | exact b2i_01 _ | exact shr_r _ _) (by first | assumption | omega | exact b2i_01 _ | exact shr_r _ _) (by first | assumption | omega | exact b2i_01 _ | exact shr_r _ _) (by first | assumption | omega | exact b2i_01 _ | exact shr_r _ _) (by first | assumption | omega | exact b2i_01 _ | exact shr_r _ _) (by first | assumption | omega | exact b2i_01 _ | exact shr_r _ _) (by first | assumption | omega | exact b2i_01 _ | exact shr_r _ _) (by first | assumption | omega | exact b2i_01 _ | exact shr_r _ _) (by first | assumption | omega | exact b2i_01 _ | exact shr_r _ _) (by first | assumption | omega | exact b2i_01 _ | exact shr_r _ _) (by first | assumption | omega | exact b2i_01 _ | exact shr_r _ _) (by first | assumption | omega | exact b2i_01 _ | exact shr_r _ _) (by first | assumption | omega | exact b2i_01 _ | exact shr_r _ _) (by first | assumption | omega | exact b2i_01 _ | exact shr_r _ _) (by first | assumption | omega | exact b2i_01 _ | exact shr_r _ _) (by first | assumption | omega | exact b2i_01 _ | exact shr_r _ _) (by first | assumption | omega | exact b2i_01 _ | exact shr_r _ _) H.size) (va_cwS 1 hts gL_times_L_all rfl rfl rfl (by decide +kernel) ⟨Nat.le_of_ble_eq_true rfl, Nat.le_of_ble_eq_true rfl⟩) (zpS hK hP hD [0, 1, 2, 3, 4, 5, 6, 7, 8, 9, 10, 11, 12, 13, 14, 15, 16, 17, 18, 19, 20, 21, 22, 23, 24, 25, 26, 27, 28] rfl rfl) rfl rfl hl.1 rfl (lv_room (Nat.le_of_ble_eq_true rfl)) dL_times_548 ⟨Nat.le_of_ble_eq_true rfl, Nat.le_of_ble_eq_true rfl⟩) hP hD hS hA [0, 1, 2, 3, 4, 5, 6, 7, 8, 9, 10, 11, 12, 13, 14, 15, 16, 17, 18, 19, 20, 21, 22, 23, 24, 25, 26, 27, 28] [29] rfl rfl rfl (by decide) (fun v_34 u_33 H locs r_32 hP hD hS => ?_)
                      obtain ⟨runx_35, rfl⟩ : ∃ z, z = u_33 := ⟨_, rfl⟩
                      obtain ⟨v_36, r_32⟩ := r_32
                      refine ze_l v_36 ?_
                      have r_32 : tfZ runx_35 := r_32
                      have hP : va_P (dC, dI) vwCl (wPW cI cJ cZ q pw co la vo cpar fr cdee use runx_35 nC tdue tlat twk nT edue elat ewk nE len cnt tin sp pe slp late srv hv av bd sh sc lt rule now st asl idl idn par div dee w) H := hP.sub [1, 2, 3, 4, 5, 6, 7, 8, 9, 10, 11, 12, 13, 14, 15, 16, 17, 18, 19, 20, 21, 22, 23, 24, 25, 26, 27, 28, 29, 0] (z_fm rfl)
                      have hD : va_D A (wPW cI cJ cZ q pw co la vo cpar fr cdee use runx_35 nC tdue tlat twk nT edue elat ewk nE len cnt tin sp pe slp late srv hv av bd sh sc lt rule now st asl idl idn par div dee w) := hD.sub [1, 2, 3, 4, 5, 6, 7, 8, 9, 10, 11, 12, 13, 14, 15, 16, 17, 18, 19, 20, 21, 22, 23, 24, 25, 26, 27, 28, 29, 0] (by decide) rfl
                      have hrun8 := r_32
                      refine lv_lload hx hb dL_times_551 (lv_at hl 8 rfl) ?_
                      refine zl_sameN (tgt := 561) hx hb (by rfl) dL_times_553 dL_times_554 (by decide) ?_
                      refine lv_iconst (v := iI 1) hx hb dL_times_557 rfl ?_
                      refine lv_goto (tgt := 562) hx hb dL_times_558 (by decide) ?_
                      subst hQ
                      refine W.widen (k := 1) (n := 6) (by decide) (by decide) ?_
                      exact zret_z (W1 := fun u9 : (Int → Int) × (Int → Int) × (Int → Int) × Int × (Int → Int) × (Int → Int) × (Int → Int) × Int × (Int → Int) × Int × Int × Int × (Int → Int) × Int × (Int → Int) × Int × (Int → Int) => wPW cI cJ cZ q pw co la vo cpar fr cdee use (u9.2.2.2.2.2.2.2.2.1) nC (u9.1) (u9.2.1) (u9.2.2.1) (u9.2.2.2.1) (u9.2.2.2.2.1) (u9.2.2.2.2.2.1) (u9.2.2.2.2.2.2.1) (u9.2.2.2.2.2.2.2.1) (u9.2.2.2.2.2.2.2.2.2.2.2.2.2.2.1) (u9.2.2.2.2.2.2.2.2.2.2.2.2.2.2.2.1) tin (u9.2.2.2.2.2.2.2.2.2.2.1) (u9.2.2.2.2.2.2.2.2.2.2.2.1) slp late srv (u9.2.2.2.2.2.2.2.2.2.2.2.2.2.2.2.2) av bd sh sc lt rule now (u9.2.2.2.2.2.2.2.2.2.1) asl (u9.2.2.2.2.2.2.2.2.2.2.2.2.1) (u9.2.2.2.2.2.2.2.2.2.2.2.2.2.1) par div dee w) (tdue, tlat, twk, nT, edue, elat, ewk, nE, runx_35, st, sp, pe, idl, idn, len, cnt, hv) hx hb hr hP hD hS hlocks dL_times_562 (by first | decide | omega) (by first | exact ⟨rfl, lj_run hI8 hrun8⟩ | exact ⟨rfl, lj_mono (K2 := K + 200) (lj_run hI hrun8) (by omega)⟩)
                  · skip
                    refine lv_iload hx hb dL_times_488 (lv_at hl 2 rfl) ?_
                    refine lv_bipush (v := iI 23) hx hb dL_times_490 (by decide) ?_
                    refine zi_cgt (tgt := 508) hx hb (by omega) (by decide) dL_times_492 (by decide) (fun c_37 => ?_) (fun c_37 => ?_)
                    · skip
                      refine lv_iload hx hb dL_times_508 (lv_at hl 0 rfl) ?_
                      refine lv_bipush (v := iI (-82)) hx hb dL_times_510 (by decide) ?_
                      refine zi_cne (tgt := 561) hx hb (by decide) (by decide) dL_times_512 (by decide) (fun c_38 => ?_) (fun c_38 => ?_)
                      · skip
                        exact absurd c_38 (by decide)
                      · skip
                        refine lv_goto (tgt := 547) hx hb dL_times_515 (by decide) ?_
                        refine lv_aload_n hx hb dL_times_547 rfl (lv_at hl 12 rfl) ?_
                        refine zc_l (va_runS (As := [.ref (q 0)]) (rest := []) ⟨hx, hb, hml, hown, hts⟩ (kL_all l dC dI cI cJ cZ q pw co la vo cpar fr cdee use runx_5 nC tdue tlat twk nT edue elat ewk nE len cnt tin sp pe slp late srv hv av bd sh sc lt rule now st asl idl idn par div dee (by first | assumption | omega | exact b2i_01 _ | exact shr_r _ _) (by first | assumption | omega | exact b2i_01 _ | exact shr_r _ _) (by first | assumption | omega | exact b2i_01 _ | exact shr_r _ _) (by first | assumption | omega | exact b2i_01 _ | exact shr_r _ _) (by first | assumption | omega | exact b2i_01 _ | exact shr_r _ _) (by first | assumption | omega | exact b2i_01 _ | exact shr_r _ _) (by first | assumption | omega | exact b2i_01 _ | exact shr_r _ _) (by first | assumption | omega | exact b2i_01 _ | exact shr_r _ _) (by first | assumption | omega | exact b2i_01 _ | exact shr_r _ _) (by first | assumption | omega | exact b2i_01 _ | exact shr_r _ _) (by first | assumption | omega | exact b2i_01 _ | exact shr_r _ _) (by first | assumption | omega | exact b2i_01 _ | exact shr_r _ _) (by first | assumption | omega | exact b2i_01 _ | exact shr_r _ _) (by first | assumption | omega | exact b2i_01 _ | exact shr_r _ _) (by first | assumption | omega | exact b2i_01 _ | exact shr_r _ _) (by first | assumption | omega | exact b2i_01 _ | exact shr_r _ _) (by first | assumption | omega | exact b2i_01 _ | exact shr_r _ _) (by first | assumption | omega | exact b2i_01 _ | exact shr_r _ _) (by first | assumption | omega | exact b2i_01 _ | exact shr_r _ _) (by first | assumption | omega | exact b2i_01 _ | exact shr_r _ _) (by first | assumption | omega | exact b2i_01 _ | exact shr_r _ _) H.size) (va_cwS 1 hts gL_times_L_all rfl rfl rfl (by decide +kernel) ⟨Nat.le_of_ble_eq_true rfl, Nat.le_of_ble_eq_true rfl⟩) (zpS hK hP hD [0, 1, 2, 3, 4, 5, 6, 7, 8, 9, 10, 11, 12, 13, 14, 15, 16, 17, 18, 19, 20, 21, 22, 23, 24, 25, 26, 27, 28] rfl rfl) rfl rfl hl.1 rfl (lv_room (Nat.le_of_ble_eq_true rfl)) dL_times_548 ⟨Nat.le_of_ble_eq_true rfl, Nat.le_of_ble_eq_true rfl⟩) hP hD hS hA [0, 1, 2, 3, 4, 5, 6, 7, 8, 9, 10, 11, 12, 13, 14, 15, 16, 17, 18, 19, 20, 21, 22, 23, 24, 25, 26, 27, 28] [29] rfl rfl rfl (by decide) (fun v_41 u_40 H locs r_39 hP hD hS => ?_)
                        obtain ⟨runx_42, rfl⟩ : ∃ z, z = u_40 := ⟨_, rfl⟩
                        obtain ⟨v_43, r_39⟩ := r_39
                        refine ze_l v_43 ?_
                        have r_39 : tfZ runx_42 := r_39
                        have hP : va_P (dC, dI) vwCl (wPW cI cJ cZ q pw co la vo cpar fr cdee use runx_42 nC tdue tlat twk nT edue elat ewk nE len cnt tin sp pe slp late srv hv av bd sh sc lt rule now st asl idl idn par div dee w) H := hP.sub [1, 2, 3, 4, 5, 6, 7, 8, 9, 10, 11, 12, 13, 14, 15, 16, 17, 18, 19, 20, 21, 22, 23, 24, 25, 26, 27, 28, 29, 0] (z_fm rfl)
                        have hD : va_D A (wPW cI cJ cZ q pw co la vo cpar fr cdee use runx_42 nC tdue tlat twk nT edue elat ewk nE len cnt tin sp pe slp late srv hv av bd sh sc lt rule now st asl idl idn par div dee w) := hD.sub [1, 2, 3, 4, 5, 6, 7, 8, 9, 10, 11, 12, 13, 14, 15, 16, 17, 18, 19, 20, 21, 22, 23, 24, 25, 26, 27, 28, 29, 0] (by decide) rfl
                        have hrun8 := r_39
                        refine lv_lload hx hb dL_times_551 (lv_at hl 8 rfl) ?_
                        refine zl_sameN (tgt := 561) hx hb (by rfl) dL_times_553 dL_times_554 (by decide) ?_
                        refine lv_iconst (v := iI 1) hx hb dL_times_557 rfl ?_
                        refine lv_goto (tgt := 562) hx hb dL_times_558 (by decide) ?_
                        subst hQ
                        refine W.widen (k := 1) (n := 6) (by decide) (by decide) ?_
                        exact zret_z (W1 := fun u9 : (Int → Int) × (Int → Int) × (Int → Int) × Int × (Int → Int) × (Int → Int) × (Int → Int) × Int × (Int → Int) × Int × Int × Int × (Int → Int) × Int × (Int → Int) × Int × (Int → Int) => wPW cI cJ cZ q pw co la vo cpar fr cdee use (u9.2.2.2.2.2.2.2.2.1) nC (u9.1) (u9.2.1) (u9.2.2.1) (u9.2.2.2.1) (u9.2.2.2.2.1) (u9.2.2.2.2.2.1) (u9.2.2.2.2.2.2.1) (u9.2.2.2.2.2.2.2.1) (u9.2.2.2.2.2.2.2.2.2.2.2.2.2.2.1) (u9.2.2.2.2.2.2.2.2.2.2.2.2.2.2.2.1) tin (u9.2.2.2.2.2.2.2.2.2.2.1) (u9.2.2.2.2.2.2.2.2.2.2.2.1) slp late srv (u9.2.2.2.2.2.2.2.2.2.2.2.2.2.2.2.2) av bd sh sc lt rule now (u9.2.2.2.2.2.2.2.2.2.1) asl (u9.2.2.2.2.2.2.2.2.2.2.2.2.1) (u9.2.2.2.2.2.2.2.2.2.2.2.2.2.1) par div dee w) (tdue, tlat, twk, nT, edue, elat, ewk, nE, runx_42, st, sp, pe, idl, idn, len, cnt, hv) hx hb hr hP hD hS hlocks dL_times_562 (by first | decide | omega) (by first | exact ⟨rfl, lj_run hI8 hrun8⟩ | exact ⟨rfl, lj_mono (K2 := K + 200) (lj_run hI hrun8) (by omega)⟩)
                    · skip
                      refine lv_iload hx hb dL_times_495 (lv_at hl 1 rfl) ?_
                      refine zi_flt (tgt := 508) hx hb (by omega) dL_times_497 (by decide) (fun c_44 => ?_) (fun c_44 => ?_)
                      · skip
                        refine lv_iload hx hb dL_times_508 (lv_at hl 0 rfl) ?_
                        refine lv_bipush (v := iI (-82)) hx hb dL_times_510 (by decide) ?_
                        refine zi_cne (tgt := 561) hx hb (by decide) (by decide) dL_times_512 (by decide) (fun c_45 => ?_) (fun c_45 => ?_)
                        · skip
                          exact absurd c_45 (by decide)
                        · skip
                          refine lv_goto (tgt := 547) hx hb dL_times_515 (by decide) ?_
                          refine lv_aload_n hx hb dL_times_547 rfl (lv_at hl 12 rfl) ?_
                          refine zc_l (va_runS (As := [.ref (q 0)]) (rest := []) ⟨hx, hb, hml, hown, hts⟩ (kL_all l dC dI cI cJ cZ q pw co la vo cpar fr cdee use runx_5 nC tdue tlat twk nT edue elat ewk nE len cnt tin sp pe slp late srv hv av bd sh sc lt rule now st asl idl idn par div dee (by first | assumption | omega | exact b2i_01 _ | exact shr_r _ _) (by first | assumption | omega | exact b2i_01 _ | exact shr_r _ _) (by first | assumption | omega | exact b2i_01 _ | exact shr_r _ _) (by first | assumption | omega | exact b2i_01 _ | exact shr_r _ _) (by first | assumption | omega | exact b2i_01 _ | exact shr_r _ _) (by first | assumption | omega | exact b2i_01 _ | exact shr_r _ _) (by first | assumption | omega | exact b2i_01 _ | exact shr_r _ _) (by first | assumption | omega | exact b2i_01 _ | exact shr_r _ _) (by first | assumption | omega | exact b2i_01 _ | exact shr_r _ _) (by first | assumption | omega | exact b2i_01 _ | exact shr_r _ _) (by first | assumption | omega | exact b2i_01 _ | exact shr_r _ _) (by first | assumption | omega | exact b2i_01 _ | exact shr_r _ _) (by first | assumption | omega | exact b2i_01 _ | exact shr_r _ _) (by first | assumption | omega | exact b2i_01 _ | exact shr_r _ _) (by first | assumption | omega | exact b2i_01 _ | exact shr_r _ _) (by first | assumption | omega | exact b2i_01 _ | exact shr_r _ _) (by first | assumption | omega | exact b2i_01 _ | exact shr_r _ _) (by first | assumption | omega | exact b2i_01 _ | exact shr_r _ _) (by first | assumption | omega | exact b2i_01 _ | exact shr_r _ _) (by first | assumption | omega | exact b2i_01 _ | exact shr_r _ _) (by first | assumption | omega | exact b2i_01 _ | exact shr_r _ _) H.size) (va_cwS 1 hts gL_times_L_all rfl rfl rfl (by decide +kernel) ⟨Nat.le_of_ble_eq_true rfl, Nat.le_of_ble_eq_true rfl⟩) (zpS hK hP hD [0, 1, 2, 3, 4, 5, 6, 7, 8, 9, 10, 11, 12, 13, 14, 15, 16, 17, 18, 19, 20, 21, 22, 23, 24, 25, 26, 27, 28] rfl rfl) rfl rfl hl.1 rfl (lv_room (Nat.le_of_ble_eq_true rfl)) dL_times_548 ⟨Nat.le_of_ble_eq_true rfl, Nat.le_of_ble_eq_true rfl⟩) hP hD hS hA [0, 1, 2, 3, 4, 5, 6, 7, 8, 9, 10, 11, 12, 13, 14, 15, 16, 17, 18, 19, 20, 21, 22, 23, 24, 25, 26, 27, 28] [29] rfl rfl rfl (by decide) (fun v_48 u_47 H locs r_46 hP hD hS => ?_)
                          obtain ⟨runx_49, rfl⟩ : ∃ z, z = u_47 := ⟨_, rfl⟩
                          obtain ⟨v_50, r_46⟩ := r_46
                          refine ze_l v_50 ?_
                          have r_46 : tfZ runx_49 := r_46
                          have hP : va_P (dC, dI) vwCl (wPW cI cJ cZ q pw co la vo cpar fr cdee use runx_49 nC tdue tlat twk nT edue elat ewk nE len cnt tin sp pe slp late srv hv av bd sh sc lt rule now st asl idl idn par div dee w) H := hP.sub [1, 2, 3, 4, 5, 6, 7, 8, 9, 10, 11, 12, 13, 14, 15, 16, 17, 18, 19, 20, 21, 22, 23, 24, 25, 26, 27, 28, 29, 0] (z_fm rfl)
                          have hD : va_D A (wPW cI cJ cZ q pw co la vo cpar fr cdee use runx_49 nC tdue tlat twk nT edue elat ewk nE len cnt tin sp pe slp late srv hv av bd sh sc lt rule now st asl idl idn par div dee w) := hD.sub [1, 2, 3, 4, 5, 6, 7, 8, 9, 10, 11, 12, 13, 14, 15, 16, 17, 18, 19, 20, 21, 22, 23, 24, 25, 26, 27, 28, 29, 0] (by decide) rfl
                          have hrun8 := r_46
                          refine lv_lload hx hb dL_times_551 (lv_at hl 8 rfl) ?_
                          refine zl_sameN (tgt := 561) hx hb (by rfl) dL_times_553 dL_times_554 (by decide) ?_
                          refine lv_iconst (v := iI 1) hx hb dL_times_557 rfl ?_
                          refine lv_goto (tgt := 562) hx hb dL_times_558 (by decide) ?_
                          subst hQ
                          refine W.widen (k := 1) (n := 6) (by decide) (by decide) ?_
                          exact zret_z (W1 := fun u9 : (Int → Int) × (Int → Int) × (Int → Int) × Int × (Int → Int) × (Int → Int) × (Int → Int) × Int × (Int → Int) × Int × Int × Int × (Int → Int) × Int × (Int → Int) × Int × (Int → Int) => wPW cI cJ cZ q pw co la vo cpar fr cdee use (u9.2.2.2.2.2.2.2.2.1) nC (u9.1) (u9.2.1) (u9.2.2.1) (u9.2.2.2.1) (u9.2.2.2.2.1) (u9.2.2.2.2.2.1) (u9.2.2.2.2.2.2.1) (u9.2.2.2.2.2.2.2.1) (u9.2.2.2.2.2.2.2.2.2.2.2.2.2.2.1) (u9.2.2.2.2.2.2.2.2.2.2.2.2.2.2.2.1) tin (u9.2.2.2.2.2.2.2.2.2.2.1) (u9.2.2.2.2.2.2.2.2.2.2.2.1) slp late srv (u9.2.2.2.2.2.2.2.2.2.2.2.2.2.2.2.2) av bd sh sc lt rule now (u9.2.2.2.2.2.2.2.2.2.1) asl (u9.2.2.2.2.2.2.2.2.2.2.2.2.1) (u9.2.2.2.2.2.2.2.2.2.2.2.2.2.1) par div dee w) (tdue, tlat, twk, nT, edue, elat, ewk, nE, runx_49, st, sp, pe, idl, idn, len, cnt, hv) hx hb hr hP hD hS hlocks dL_times_562 (by first | decide | omega) (by first | exact ⟨rfl, lj_run hI8 hrun8⟩ | exact ⟨rfl, lj_mono (K2 := K + 200) (lj_run hI hrun8) (by omega)⟩)
                      · skip
                        refine lv_iload hx hb dL_times_500 (lv_at hl 1 rfl) ?_
                        refine lv_sipush (v := iI 1000) hx hb dL_times_502 (by decide) ?_
                        refine zi_cle (tgt := 518) hx hb (by omega) (by decide) dL_times_505 (by decide) (fun c_51 => ?_) (fun c_51 => ?_)
                        · skip
                          exact absurd c_51 (by omega)
                        · skip
                          refine lv_iload hx hb dL_times_508 (lv_at hl 0 rfl) ?_
                          refine lv_bipush (v := iI (-82)) hx hb dL_times_510 (by decide) ?_
                          refine zi_cne (tgt := 561) hx hb (by decide) (by decide) dL_times_512 (by decide) (fun c_52 => ?_) (fun c_52 => ?_)
                          · skip
                            exact absurd c_52 (by decide)
                          · skip
                            refine lv_goto (tgt := 547) hx hb dL_times_515 (by decide) ?_
                            refine lv_aload_n hx hb dL_times_547 rfl (lv_at hl 12 rfl) ?_
                            refine zc_l (va_runS (As := [.ref (q 0)]) (rest := []) ⟨hx, hb, hml, hown, hts⟩ (kL_all l dC dI cI cJ cZ q pw co la vo cpar fr cdee use runx_5 nC tdue tlat twk nT edue elat ewk nE len cnt tin sp pe slp late srv hv av bd sh sc lt rule now st asl idl idn par div dee (by first | assumption | omega | exact b2i_01 _ | exact shr_r _ _) (by first | assumption | omega | exact b2i_01 _ | exact shr_r _ _) (by first | assumption | omega | exact b2i_01 _ | exact shr_r _ _) (by first | assumption | omega | exact b2i_01 _ | exact shr_r _ _) (by first | assumption | omega | exact b2i_01 _ | exact shr_r _ _) (by first | assumption | omega | exact b2i_01 _ | exact shr_r _ _) (by first | assumption | omega | exact b2i_01 _ | exact shr_r _ _) (by first | assumption | omega | exact b2i_01 _ | exact shr_r _ _) (by first | assumption | omega | exact b2i_01 _ | exact shr_r _ _) (by first | assumption | omega | exact b2i_01 _ | exact shr_r _ _) (by first | assumption | omega | exact b2i_01 _ | exact shr_r _ _) (by first | assumption | omega | exact b2i_01 _ | exact shr_r _ _) (by first | assumption | omega | exact b2i_01 _ | exact shr_r _ _) (by first | assumption | omega | exact b2i_01 _ | exact shr_r _ _) (by first | assumption | omega | exact b2i_01 _ | exact shr_r _ _) (by first | assumption | omega | exact b2i_01 _ | exact shr_r _ _) (by first | assumption | omega | exact b2i_01 _ | exact shr_r _ _) (by first | assumption | omega | exact b2i_01 _ | exact shr_r _ _) (by first | assumption | omega | exact b2i_01 _ | exact shr_r _ _) (by first | assumption | omega | exact b2i_01 _ | exact shr_r _ _) (by first | assumption | omega | exact b2i_01 _ | exact shr_r _ _) H.size) (va_cwS 1 hts gL_times_L_all rfl rfl rfl (by decide +kernel) ⟨Nat.le_of_ble_eq_true rfl, Nat.le_of_ble_eq_true rfl⟩) (zpS hK hP hD [0, 1, 2, 3, 4, 5, 6, 7, 8, 9, 10, 11, 12, 13, 14, 15, 16, 17, 18, 19, 20, 21, 22, 23, 24, 25, 26, 27, 28] rfl rfl) rfl rfl hl.1 rfl (lv_room (Nat.le_of_ble_eq_true rfl)) dL_times_548 ⟨Nat.le_of_ble_eq_true rfl, Nat.le_of_ble_eq_true rfl⟩) hP hD hS hA [0, 1, 2, 3, 4, 5, 6, 7, 8, 9, 10, 11, 12, 13, 14, 15, 16, 17, 18, 19, 20, 21, 22, 23, 24, 25, 26, 27, 28] [29] rfl rfl rfl (by decide) (fun v_55 u_54 H locs r_53 hP hD hS => ?_)
                            obtain ⟨runx_56, rfl⟩ : ∃ z, z = u_54 := ⟨_, rfl⟩
                            obtain ⟨v_57, r_53⟩ := r_53
                            refine ze_l v_57 ?_
                            have r_53 : tfZ runx_56 := r_53
                            have hP : va_P (dC, dI) vwCl (wPW cI cJ cZ q pw co la vo cpar fr cdee use runx_56 nC tdue tlat twk nT edue elat ewk nE len cnt tin sp pe slp late srv hv av bd sh sc lt rule now st asl idl idn par div dee w) H := hP.sub [1, 2, 3, 4, 5, 6, 7, 8, 9, 10, 11, 12, 13, 14, 15, 16, 17, 18, 19, 20, 21, 22, 23, 24, 25, 26, 27, 28, 29, 0] (z_fm rfl)
                            have hD : va_D A (wPW cI cJ cZ q pw co la vo cpar fr cdee use runx_56 nC tdue tlat twk nT edue elat ewk nE len cnt tin sp pe slp late srv hv av bd sh sc lt rule now st asl idl idn par div dee w) := hD.sub [1, 2, 3, 4, 5, 6, 7, 8, 9, 10, 11, 12, 13, 14, 15, 16, 17, 18, 19, 20, 21, 22, 23, 24, 25, 26, 27, 28, 29, 0] (by decide) rfl
                            have hrun8 := r_53
                            refine lv_lload hx hb dL_times_551 (lv_at hl 8 rfl) ?_
                            refine zl_sameN (tgt := 561) hx hb (by rfl) dL_times_553 dL_times_554 (by decide) ?_
                            refine lv_iconst (v := iI 1) hx hb dL_times_557 rfl ?_
                            refine lv_goto (tgt := 562) hx hb dL_times_558 (by decide) ?_
                            subst hQ
                            refine W.widen (k := 1) (n := 6) (by decide) (by decide) ?_
                            exact zret_z (W1 := fun u9 : (Int → Int) × (Int → Int) × (Int → Int) × Int × (Int → Int) × (Int → Int) × (Int → Int) × Int × (Int → Int) × Int × Int × Int × (Int → Int) × Int × (Int → Int) × Int × (Int → Int) => wPW cI cJ cZ q pw co la vo cpar fr cdee use (u9.2.2.2.2.2.2.2.2.1) nC (u9.1) (u9.2.1) (u9.2.2.1) (u9.2.2.2.1) (u9.2.2.2.2.1) (u9.2.2.2.2.2.1) (u9.2.2.2.2.2.2.1) (u9.2.2.2.2.2.2.2.1) (u9.2.2.2.2.2.2.2.2.2.2.2.2.2.2.1) (u9.2.2.2.2.2.2.2.2.2.2.2.2.2.2.2.1) tin (u9.2.2.2.2.2.2.2.2.2.2.1) (u9.2.2.2.2.2.2.2.2.2.2.2.1) slp late srv (u9.2.2.2.2.2.2.2.2.2.2.2.2.2.2.2.2) av bd sh sc lt rule now (u9.2.2.2.2.2.2.2.2.2.1) asl (u9.2.2.2.2.2.2.2.2.2.2.2.2.1) (u9.2.2.2.2.2.2.2.2.2.2.2.2.2.1) par div dee w) (tdue, tlat, twk, nT, edue, elat, ewk, nE, runx_56, st, sp, pe, idl, idn, len, cnt, hv) hx hb hr hP hD hS hlocks dL_times_562 (by first | decide | omega) (by first | exact ⟨rfl, lj_run hI8 hrun8⟩ | exact ⟨rfl, lj_mono (K2 := K + 200) (lj_run hI hrun8) (by omega)⟩)
              refine lv_iload_n hx hb dL_times_439 rfl (lv_at hl 13 rfl) ?_
              refine zi_feq (tgt := 458) hx hb (by omega) dL_times_440 (by decide) (fun c_58 => ?_) (fun c_58 => ?_)
              · skip
                refine lv_iload_n hx hb dL_times_458 rfl (lv_at hl 12 rfl) ?_
                refine lv_bipush (v := iI 8) hx hb dL_times_459 (by decide) ?_
                refine zi_shr hx hb dL_times_461 ?_
                refine lv_sipush (v := iI 300) hx hb dL_times_462 (by decide) ?_
                refine zc_pi (va_runS (As := [.int (iI (shrZ y 8)), .int (iI 300)]) (rest := []) ⟨hx, hb, hml, hown, hts⟩ (kL_some l dC dI cI cJ cZ (shrZ y 8) 300 (by first | assumption | omega | exact b2i_01 _ | exact shr_r _ _) (by first | assumption | omega | exact b2i_01 _ | exact shr_r _ _)) (va_cwS 2 hts gL_times_L_some rfl rfl rfl (by decide +kernel) ⟨Nat.le_of_ble_eq_true rfl, Nat.le_of_ble_eq_true rfl⟩) (zqS hK hP [] rfl) rfl rfl hl.1 rfl (lv_room (Nat.le_of_ble_eq_true rfl)) dL_times_465 ⟨Nat.le_of_ble_eq_true rfl, Nat.le_of_ble_eq_true rfl⟩) ?_
                have e_59 := sm_r (shrZ y 8) (show (0 : Int) < 300 by decide)
                exact L468 (smZ (shrZ y 8) 300) (by omega) H locs hP hD hS ls (lv_sub hl [0, 1, 2, 3, 4, 5, 6, 7, 8, 9, 10, 11, 12, 13] rfl)
              · skip
                refine lv_iload_n hx hb dL_times_443 rfl (lv_at hl 12 rfl) ?_
                refine lv_bipush (v := iI 8) hx hb dL_times_444 (by decide) ?_
                refine zi_shr hx hb dL_times_446 ?_
                refine lv_sipush (v := iI 1010) hx hb dL_times_447 (by decide) ?_
                refine zc_pi (va_runS (As := [.int (iI (shrZ y 8)), .int (iI 1010)]) (rest := []) ⟨hx, hb, hml, hown, hts⟩ (kL_some l dC dI cI cJ cZ (shrZ y 8) 1010 (by first | assumption | omega | exact b2i_01 _ | exact shr_r _ _) (by first | assumption | omega | exact b2i_01 _ | exact shr_r _ _)) (va_cwS 2 hts gL_times_L_some rfl rfl rfl (by decide +kernel) ⟨Nat.le_of_ble_eq_true rfl, Nat.le_of_ble_eq_true rfl⟩) (zqS hK hP [] rfl) rfl rfl hl.1 rfl (lv_room (Nat.le_of_ble_eq_true rfl)) dL_times_450 ⟨Nat.le_of_ble_eq_true rfl, Nat.le_of_ble_eq_true rfl⟩) ?_
                have e_60 := sm_r (shrZ y 8) (show (0 : Int) < 1010 by decide)
                refine lv_iconst (v := iI 5) hx hb dL_times_453 rfl ?_
                refine zi_sub hx hb dL_times_454 ?_
                refine lv_goto (tgt := 468) hx hb dL_times_455 (by decide) ?_
                exact L468 ((smZ (shrZ y 8) 1010) - 5) (by omega) H locs hP hD hS ls (lv_sub hl [0, 1, 2, 3, 4, 5, 6, 7, 8, 9, 10, 11, 12, 13] rfl)
            refine lv_iload_n hx hb dL_times_412 rfl (lv_at hl 12 rfl) ?_
            refine zi_feq (tgt := 429) hx hb (by omega) dL_times_413 (by decide) (fun c_61 => ?_) (fun c_61 => ?_)
            · skip
              refine lv_iload_n hx hb dL_times_429 rfl (lv_at hl 11 rfl) ?_
              refine lv_iconst (v := iI 3) hx hb dL_times_430 rfl ?_
              refine zi_shr hx hb dL_times_431 ?_
              refine lv_bipush (v := iI 24) hx hb dL_times_432 (by decide) ?_
              refine zc_pi (va_runS (As := [.int (iI (shrZ y 3)), .int (iI 24)]) (rest := []) ⟨hx, hb, hml, hown, hts⟩ (kL_some l dC dI cI cJ cZ (shrZ y 3) 24 (by first | assumption | omega | exact b2i_01 _ | exact shr_r _ _) (by first | assumption | omega | exact b2i_01 _ | exact shr_r _ _)) (va_cwS 2 hts gL_times_L_some rfl rfl rfl (by decide +kernel) ⟨Nat.le_of_ble_eq_true rfl, Nat.le_of_ble_eq_true rfl⟩) (zqS hK hP [] rfl) rfl rfl hl.1 rfl (lv_room (Nat.le_of_ble_eq_true rfl)) dL_times_434 ⟨Nat.le_of_ble_eq_true rfl, Nat.le_of_ble_eq_true rfl⟩) ?_
              have e_62 := sm_r (shrZ y 3) (show (0 : Int) < 24 by decide)
              exact L437 (smZ (shrZ y 3) 24) (by omega) H locs hP hD hS ls (lv_sub hl [0, 1, 2, 3, 4, 5, 6, 7, 8, 9, 10, 11, 12] rfl)
            · skip
              refine lv_iload_n hx hb dL_times_416 rfl (lv_at hl 11 rfl) ?_
              refine lv_iconst (v := iI 3) hx hb dL_times_417 rfl ?_
              refine zi_shr hx hb dL_times_418 ?_
              refine lv_bipush (v := iI 28) hx hb dL_times_419 (by decide) ?_
              refine zc_pi (va_runS (As := [.int (iI (shrZ y 3)), .int (iI 28)]) (rest := []) ⟨hx, hb, hml, hown, hts⟩ (kL_some l dC dI cI cJ cZ (shrZ y 3) 28 (by first | assumption | omega | exact b2i_01 _ | exact shr_r _ _) (by first | assumption | omega | exact b2i_01 _ | exact shr_r _ _)) (va_cwS 2 hts gL_times_L_some rfl rfl rfl (by decide +kernel) ⟨Nat.le_of_ble_eq_true rfl, Nat.le_of_ble_eq_true rfl⟩) (zqS hK hP [] rfl) rfl rfl hl.1 rfl (lv_room (Nat.le_of_ble_eq_true rfl)) dL_times_421 ⟨Nat.le_of_ble_eq_true rfl, Nat.le_of_ble_eq_true rfl⟩) ?_
              have e_63 := sm_r (shrZ y 3) (show (0 : Int) < 28 by decide)
              refine lv_iconst (v := iI 2) hx hb dL_times_424 rfl ?_
              refine zi_sub hx hb dL_times_425 ?_
              refine lv_goto (tgt := 437) hx hb dL_times_426 (by decide) ?_
              exact L437 ((smZ (shrZ y 3) 28) - 2) (by omega) H locs hP hD hS ls (lv_sub hl [0, 1, 2, 3, 4, 5, 6, 7, 8, 9, 10, 11, 12] rfl)
          · skip
            refine lv_aload_n hx hb dL_times_349 rfl (lv_at hl 9 rfl) ?_
            refine lv_bipush (v := iI 6) hx hb dL_times_350 (by decide) ?_
            refine lv_iload hx hb dL_times_352 (lv_at hl 4 rfl) ?_
            refine lv_iload hx hb dL_times_354 (lv_at hl 3 rfl) ?_
            refine lv_iconst (v := iI 0) hx hb dL_times_356 rfl ?_
            by_cases c_64 : (now ≤ now + t1 ∧ now + t1 ≤ now + 1000) ∧ (1 ≤ wk1 ∧ wk1 ≤ 50)
            · skip
              by_cases c_65 : nE < 12
              · skip
                refine zc_i (vx_runSW (As := [.ref (q 0), .int (iI 6), .int (iI (now + t1)), .int (iI wk1), .int (iI 0)]) (rest := []) ⟨hx, hb, hml, hown, hts⟩ (kL_sets_ok6 l dC dI cI cJ cZ q pw co la vo cpar fr cdee use runx_5 nC tdue tlat twk nT edue elat ewk nE len cnt tin sp pe slp late srv hv av bd sh sc lt rule now st asl idl idn par div dee (now + t1) wk1 (by first | assumption | omega | exact b2i_01 _ | exact shr_r _ _) (by first | assumption | omega | exact b2i_01 _ | exact shr_r _ _) (by first | assumption | omega | exact b2i_01 _ | exact shr_r _ _) (by first | assumption | omega | exact b2i_01 _ | exact shr_r _ _) (by first | assumption | omega | exact b2i_01 _ | exact shr_r _ _) H.size) (vx_cwSW 5 hts gL_times_L_sets rfl rfl rfl (by decide +kernel) ⟨Nat.le_of_ble_eq_true rfl, Nat.le_of_ble_eq_true rfl⟩) (zpS hK hP hD [0, 1, 2, 3, 4, 5, 6, 7, 8, 9, 10, 11, 12, 13, 14, 15, 16, 17, 18, 19, 20, 21, 22, 23, 24, 25, 26, 27, 28] rfl rfl) rfl rfl hl.1 rfl (lv_room (Nat.le_of_ble_eq_true rfl)) dL_times_357 ⟨Nat.le_of_ble_eq_true rfl, Nat.le_of_ble_eq_true rfl⟩) hP hD hS hA [0, 1, 2, 3, 4, 5, 6, 7, 8, 9, 10, 11, 12, 13, 14, 15, 16, 17, 18, 19, 20, 21, 22, 23, 24, 25, 26, 27, 28] [29] rfl rfl rfl (by decide) (fun v_68 u_67 H locs r_66 hP hD hS => ?_)
                refine ze_i r_66 ?_
                have hP : va_P (dC, dI) vwCl (wPW cI cJ cZ q pw co la vo cpar fr cdee use runx_5 nC tdue tlat twk nT (uZ edue nE (now + t1)) (uZ elat nE (now + t1)) (uZ ewk nE wk1) (nE + 1) len cnt tin sp pe slp late srv hv av bd sh sc lt rule now st asl idl idn par div dee w) H := hP.sub [1, 2, 3, 4, 5, 6, 7, 8, 9, 10, 11, 12, 13, 14, 15, 16, 17, 18, 19, 20, 21, 22, 23, 24, 25, 26, 27, 28, 29, 0] (z_fm rfl)
                have hD : va_D A (wPW cI cJ cZ q pw co la vo cpar fr cdee use runx_5 nC tdue tlat twk nT (uZ edue nE (now + t1)) (uZ elat nE (now + t1)) (uZ ewk nE wk1) (nE + 1) len cnt tin sp pe slp late srv hv av bd sh sc lt rule now st asl idl idn par div dee w) := hD.sub [1, 2, 3, 4, 5, 6, 7, 8, 9, 10, 11, 12, 13, 14, 15, 16, 17, 18, 19, 20, 21, 22, 23, 24, 25, 26, 27, 28, 29, 0] (by decide) rfl
                have hI8 := lj_event hI5 (x1 := now + t1) (x2 := wk1) (by omega) (by omega) (by omega) (by omega)
                refine lv_istore (lv' := [(15, .int (iI (nE + 1))), (14, .int (iI bb)), (13, .int (iI (llZ tdue tlat (-1) 1000000000 nT))), (12, .int (iI nT)), (11, .int (iI wk1)), (10, .int (iI (now + t1))), (8, .long (lI (alZ pw co la vo use nC tdue tlat nT tin sp slp late srv av bd sh now st par dee))), (6, .long (lI sp)), (5, .int (iI st)), (4, .int (iI (smZ y 8))), (0, .ref (q 0)), (1, .ref (q 29)), (2, .int (iI y)), (3, .int (iI od))]) hx hb dL_times_360 hl (by decide) rfl (fun ls hl => ?_)
                refine lv_iload hx hb dL_times_362 (lv_at hl 1 rfl) ?_
                refine zi_feq (tgt := 377) hx hb (by omega) dL_times_364 (by decide) (fun c_69 => ?_) (fun c_69 => ?_)
                · skip
                  refine lv_iload hx hb dL_times_377 (lv_at hl 0 rfl) ?_
                  refine lv_bipush (v := iI (-83)) hx hb dL_times_379 (by decide) ?_
                  refine zi_ceq (tgt := 396) hx hb (by omega) (by decide) dL_times_381 (by decide) (fun c_70 => ?_) (fun c_70 => ?_)
                  · skip
                    exact absurd c_70 (by omega)
                  · skip
                    refine lv_iload hx hb dL_times_384 (lv_at hl 0 rfl) ?_
                    refine zi_fle (tgt := 410) hx hb (by omega) dL_times_386 (by decide) (fun c_71 => ?_) (fun c_71 => ?_)
                    · skip
                      exact absurd c_71 (by omega)
                    · skip
                      refine lv_iload hx hb dL_times_389 (lv_at hl 0 rfl) ?_
                      refine lv_bipush (v := iI 13) hx hb dL_times_391 (by decide) ?_
                      refine zi_cge (tgt := 410) hx hb (by omega) (by decide) dL_times_393 (by decide) (fun c_72 => ?_) (fun c_72 => ?_)
                      · skip
                        exact absurd c_72 (by omega)
                      · skip
                        refine lv_aload_n hx hb dL_times_396 rfl (lv_at hl 10 rfl) ?_
                        refine zc_l (va_runS (As := [.ref (q 0)]) (rest := []) ⟨hx, hb, hml, hown, hts⟩ (kL_all l dC dI cI cJ cZ q pw co la vo cpar fr cdee use runx_5 nC tdue tlat twk nT (uZ edue nE (now + t1)) (uZ elat nE (now + t1)) (uZ ewk nE wk1) (nE + 1) len cnt tin sp pe slp late srv hv av bd sh sc lt rule now st asl idl idn par div dee (by first | assumption | omega | exact b2i_01 _ | exact shr_r _ _) (by first | assumption | omega | exact b2i_01 _ | exact shr_r _ _) (by first | assumption | omega | exact b2i_01 _ | exact shr_r _ _) (by first | assumption | omega | exact b2i_01 _ | exact shr_r _ _) (by first | assumption | omega | exact b2i_01 _ | exact shr_r _ _) (by first | assumption | omega | exact b2i_01 _ | exact shr_r _ _) (by first | assumption | omega | exact b2i_01 _ | exact shr_r _ _) (by first | assumption | omega | exact b2i_01 _ | exact shr_r _ _) (by first | assumption | omega | exact b2i_01 _ | exact shr_r _ _) (by first | assumption | omega | exact b2i_01 _ | exact shr_r _ _) (by first | assumption | omega | exact b2i_01 _ | exact shr_r _ _) (by first | assumption | omega | exact b2i_01 _ | exact shr_r _ _) (by first | assumption | omega | exact b2i_01 _ | exact shr_r _ _) (by first | assumption | omega | exact b2i_01 _ | exact shr_r _ _) (by first | assumption | omega | exact b2i_01 _ | exact shr_r _ _) (by first | assumption | omega | exact b2i_01 _ | exact shr_r _ _) (by first | assumption | omega | exact b2i_01 _ | exact shr_r _ _) (by first | assumption | omega | exact b2i_01 _ | exact shr_r _ _) (by first | assumption | omega | exact b2i_01 _ | exact shr_r _ _) (by first | assumption | omega | exact b2i_01 _ | exact shr_r _ _) (by first | assumption | omega | exact b2i_01 _ | exact shr_r _ _) H.size) (va_cwS 1 hts gL_times_L_all rfl rfl rfl (by decide +kernel) ⟨Nat.le_of_ble_eq_true rfl, Nat.le_of_ble_eq_true rfl⟩) (zpS hK hP hD [0, 1, 2, 3, 4, 5, 6, 7, 8, 9, 10, 11, 12, 13, 14, 15, 16, 17, 18, 19, 20, 21, 22, 23, 24, 25, 26, 27, 28] rfl rfl) rfl rfl hl.1 rfl (lv_room (Nat.le_of_ble_eq_true rfl)) dL_times_397 ⟨Nat.le_of_ble_eq_true rfl, Nat.le_of_ble_eq_true rfl⟩) hP hD hS hA [0, 1, 2, 3, 4, 5, 6, 7, 8, 9, 10, 11, 12, 13, 14, 15, 16, 17, 18, 19, 20, 21, 22, 23, 24, 25, 26, 27, 28] [29] rfl rfl rfl (by decide) (fun v_75 u_74 H locs r_73 hP hD hS => ?_)
                        obtain ⟨runx_76, rfl⟩ : ∃ z, z = u_74 := ⟨_, rfl⟩
                        obtain ⟨v_77, r_73⟩ := r_73
                        refine ze_l v_77 ?_
                        have r_73 : tfZ runx_76 := r_73
                        have hP : va_P (dC, dI) vwCl (wPW cI cJ cZ q pw co la vo cpar fr cdee use runx_76 nC tdue tlat twk nT (uZ edue nE (now + t1)) (uZ elat nE (now + t1)) (uZ ewk nE wk1) (nE + 1) len cnt tin sp pe slp late srv hv av bd sh sc lt rule now st asl idl idn par div dee w) H := hP.sub [1, 2, 3, 4, 5, 6, 7, 8, 9, 10, 11, 12, 13, 14, 15, 16, 17, 18, 19, 20, 21, 22, 23, 24, 25, 26, 27, 28, 29, 0] (z_fm rfl)
                        have hD : va_D A (wPW cI cJ cZ q pw co la vo cpar fr cdee use runx_76 nC tdue tlat twk nT (uZ edue nE (now + t1)) (uZ elat nE (now + t1)) (uZ ewk nE wk1) (nE + 1) len cnt tin sp pe slp late srv hv av bd sh sc lt rule now st asl idl idn par div dee w) := hD.sub [1, 2, 3, 4, 5, 6, 7, 8, 9, 10, 11, 12, 13, 14, 15, 16, 17, 18, 19, 20, 21, 22, 23, 24, 25, 26, 27, 28, 29, 0] (by decide) rfl
                        have hrun8 := r_73
                        refine lv_lload hx hb dL_times_400 (lv_at hl 6 rfl) ?_
                        refine zl_sameN (tgt := 410) hx hb (by rfl) dL_times_402 dL_times_403 (by decide) ?_
                        refine lv_iconst (v := iI 1) hx hb dL_times_406 rfl ?_
                        refine lv_goto (tgt := 411) hx hb dL_times_407 (by decide) ?_
                        subst hQ
                        refine W.widen (k := 1) (n := 6) (by decide) (by decide) ?_
                        exact zret_z (W1 := fun u9 : (Int → Int) × (Int → Int) × (Int → Int) × Int × (Int → Int) × (Int → Int) × (Int → Int) × Int × (Int → Int) × Int × Int × Int × (Int → Int) × Int × (Int → Int) × Int × (Int → Int) => wPW cI cJ cZ q pw co la vo cpar fr cdee use (u9.2.2.2.2.2.2.2.2.1) nC (u9.1) (u9.2.1) (u9.2.2.1) (u9.2.2.2.1) (u9.2.2.2.2.1) (u9.2.2.2.2.2.1) (u9.2.2.2.2.2.2.1) (u9.2.2.2.2.2.2.2.1) (u9.2.2.2.2.2.2.2.2.2.2.2.2.2.2.1) (u9.2.2.2.2.2.2.2.2.2.2.2.2.2.2.2.1) tin (u9.2.2.2.2.2.2.2.2.2.2.1) (u9.2.2.2.2.2.2.2.2.2.2.2.1) slp late srv (u9.2.2.2.2.2.2.2.2.2.2.2.2.2.2.2.2) av bd sh sc lt rule now (u9.2.2.2.2.2.2.2.2.2.1) asl (u9.2.2.2.2.2.2.2.2.2.2.2.2.1) (u9.2.2.2.2.2.2.2.2.2.2.2.2.2.1) par div dee w) (tdue, tlat, twk, nT, uZ edue nE (now + t1), uZ elat nE (now + t1), uZ ewk nE wk1, nE + 1, runx_76, st, sp, pe, idl, idn, len, cnt, hv) hx hb hr hP hD hS hlocks dL_times_411 (by first | decide | omega) (by first | exact ⟨rfl, lj_run hI8 hrun8⟩ | exact ⟨rfl, lj_mono (K2 := K + 200) (lj_run hI hrun8) (by omega)⟩)
                · skip
                  exact absurd c_69 (by omega)
              · skip
                refine zc_i (vx_runSW (As := [.ref (q 0), .int (iI 6), .int (iI (now + t1)), .int (iI wk1), .int (iI 0)]) (rest := []) ⟨hx, hb, hml, hown, hts⟩ (kL_sets_bad6s l dC dI cI cJ cZ q pw co la vo cpar fr cdee use runx_5 nC tdue tlat twk nT edue elat ewk nE len cnt tin sp pe slp late srv hv av bd sh sc lt rule now st asl idl idn par div dee (now + t1) wk1 (by first | assumption | omega | exact b2i_01 _ | exact shr_r _ _) (by first | assumption | omega | exact b2i_01 _ | exact shr_r _ _) (by first | assumption | omega | exact b2i_01 _ | exact shr_r _ _) (by first | assumption | omega | exact b2i_01 _ | exact shr_r _ _) (by first | assumption | omega | exact b2i_01 _ | exact shr_r _ _) htr H.size) (vx_cwSW 5 hts gL_times_L_sets rfl rfl rfl (by decide +kernel) ⟨Nat.le_of_ble_eq_true rfl, Nat.le_of_ble_eq_true rfl⟩) (zyS hY hX hS hA hK hP hD [0, 1, 2, 3, 4, 5, 6, 7, 8, 9, 10, 11, 12, 13, 14, 15, 16, 17, 18, 19, 20, 21, 22, 23, 24, 25, 26, 27, 28] rfl rfl) rfl rfl hl.1 rfl (lv_room (Nat.le_of_ble_eq_true rfl)) dL_times_357 ⟨Nat.le_of_ble_eq_true rfl, Nat.le_of_ble_eq_true rfl⟩) hP hD hS hA [0, 1, 2, 3, 4, 5, 6, 7, 8, 9, 10, 11, 12, 13, 14, 15, 16, 17, 18, 19, 20, 21, 22, 23, 24, 25, 26, 27, 28] [29] rfl rfl rfl (by decide) (fun v_80 u_79 H locs r_78 hP hD hS => ?_)
                refine ze_i r_78 ?_
                have hP : va_P (dC, dI) vwCl (wPW cI cJ cZ q pw co la vo cpar fr cdee use runx_5 nC tdue tlat twk nT edue elat ewk nE len cnt tin sp pe slp late srv hv av bd sh sc lt rule now st asl idl idn par div dee w) H := hP.sub [1, 2, 3, 4, 5, 6, 7, 8, 9, 10, 11, 12, 13, 14, 15, 16, 17, 18, 19, 20, 21, 22, 23, 24, 25, 26, 27, 28, 29, 0] (z_fm rfl)
                have hD : va_D A (wPW cI cJ cZ q pw co la vo cpar fr cdee use runx_5 nC tdue tlat twk nT edue elat ewk nE len cnt tin sp pe slp late srv hv av bd sh sc lt rule now st asl idl idn par div dee w) := hD.sub [1, 2, 3, 4, 5, 6, 7, 8, 9, 10, 11, 12, 13, 14, 15, 16, 17, 18, 19, 20, 21, 22, 23, 24, 25, 26, 27, 28, 29, 0] (by decide) rfl
                refine lv_istore (lv' := [(15, .int (iI (-83))), (14, .int (iI bb)), (13, .int (iI (llZ tdue tlat (-1) 1000000000 nT))), (12, .int (iI nT)), (11, .int (iI wk1)), (10, .int (iI (now + t1))), (8, .long (lI (alZ pw co la vo use nC tdue tlat nT tin sp slp late srv av bd sh now st par dee))), (6, .long (lI sp)), (5, .int (iI st)), (4, .int (iI (smZ y 8))), (0, .ref (q 0)), (1, .ref (q 29)), (2, .int (iI y)), (3, .int (iI od))]) hx hb dL_times_360 hl (by decide) rfl (fun ls hl => ?_)
                refine lv_iload hx hb dL_times_362 (lv_at hl 1 rfl) ?_
                refine zi_feq (tgt := 377) hx hb (by omega) dL_times_364 (by decide) (fun c_81 => ?_) (fun c_81 => ?_)
                · skip
                  refine lv_iload hx hb dL_times_377 (lv_at hl 0 rfl) ?_
                  refine lv_bipush (v := iI (-83)) hx hb dL_times_379 (by decide) ?_
                  refine zi_ceq (tgt := 396) hx hb (by decide) (by decide) dL_times_381 (by decide) (fun c_82 => ?_) (fun c_82 => ?_)
                  · skip
                    refine lv_aload_n hx hb dL_times_396 rfl (lv_at hl 10 rfl) ?_
                    refine zc_l (va_runS (As := [.ref (q 0)]) (rest := []) ⟨hx, hb, hml, hown, hts⟩ (kL_all l dC dI cI cJ cZ q pw co la vo cpar fr cdee use runx_5 nC tdue tlat twk nT edue elat ewk nE len cnt tin sp pe slp late srv hv av bd sh sc lt rule now st asl idl idn par div dee (by first | assumption | omega | exact b2i_01 _ | exact shr_r _ _) (by first | assumption | omega | exact b2i_01 _ | exact shr_r _ _) (by first | assumption | omega | exact b2i_01 _ | exact shr_r _ _) (by first | assumption | omega | exact b2i_01 _ | exact shr_r _ _) (by first | assumption | omega | exact b2i_01 _ | exact shr_r _ _) (by first | assumption | omega | exact b2i_01 _ | exact shr_r _ _) (by first | assumption | omega | exact b2i_01 _ | exact shr_r _ _) (by first | assumption | omega | exact b2i_01 _ | exact shr_r _ _) (by first | assumption | omega | exact b2i_01 _ | exact shr_r _ _) (by first | assumption | omega | exact b2i_01 _ | exact shr_r _ _) (by first | assumption | omega | exact b2i_01 _ | exact shr_r _ _) (by first | assumption | omega | exact b2i_01 _ | exact shr_r _ _) (by first | assumption | omega | exact b2i_01 _ | exact shr_r _ _) (by first | assumption | omega | exact b2i_01 _ | exact shr_r _ _) (by first | assumption | omega | exact b2i_01 _ | exact shr_r _ _) (by first | assumption | omega | exact b2i_01 _ | exact shr_r _ _) (by first | assumption | omega | exact b2i_01 _ | exact shr_r _ _) (by first | assumption | omega | exact b2i_01 _ | exact shr_r _ _) (by first | assumption | omega | exact b2i_01 _ | exact shr_r _ _) (by first | assumption | omega | exact b2i_01 _ | exact shr_r _ _) (by first | assumption | omega | exact b2i_01 _ | exact shr_r _ _) H.size) (va_cwS 1 hts gL_times_L_all rfl rfl rfl (by decide +kernel) ⟨Nat.le_of_ble_eq_true rfl, Nat.le_of_ble_eq_true rfl⟩) (zpS hK hP hD [0, 1, 2, 3, 4, 5, 6, 7, 8, 9, 10, 11, 12, 13, 14, 15, 16, 17, 18, 19, 20, 21, 22, 23, 24, 25, 26, 27, 28] rfl rfl) rfl rfl hl.1 rfl (lv_room (Nat.le_of_ble_eq_true rfl)) dL_times_397 ⟨Nat.le_of_ble_eq_true rfl, Nat.le_of_ble_eq_true rfl⟩) hP hD hS hA [0, 1, 2, 3, 4, 5, 6, 7, 8, 9, 10, 11, 12, 13, 14, 15, 16, 17, 18, 19, 20, 21, 22, 23, 24, 25, 26, 27, 28] [29] rfl rfl rfl (by decide) (fun v_85 u_84 H locs r_83 hP hD hS => ?_)
                    obtain ⟨runx_86, rfl⟩ : ∃ z, z = u_84 := ⟨_, rfl⟩
                    obtain ⟨v_87, r_83⟩ := r_83
                    refine ze_l v_87 ?_
                    have r_83 : tfZ runx_86 := r_83
                    have hP : va_P (dC, dI) vwCl (wPW cI cJ cZ q pw co la vo cpar fr cdee use runx_86 nC tdue tlat twk nT edue elat ewk nE len cnt tin sp pe slp late srv hv av bd sh sc lt rule now st asl idl idn par div dee w) H := hP.sub [1, 2, 3, 4, 5, 6, 7, 8, 9, 10, 11, 12, 13, 14, 15, 16, 17, 18, 19, 20, 21, 22, 23, 24, 25, 26, 27, 28, 29, 0] (z_fm rfl)
                    have hD : va_D A (wPW cI cJ cZ q pw co la vo cpar fr cdee use runx_86 nC tdue tlat twk nT edue elat ewk nE len cnt tin sp pe slp late srv hv av bd sh sc lt rule now st asl idl idn par div dee w) := hD.sub [1, 2, 3, 4, 5, 6, 7, 8, 9, 10, 11, 12, 13, 14, 15, 16, 17, 18, 19, 20, 21, 22, 23, 24, 25, 26, 27, 28, 29, 0] (by decide) rfl
                    have hrun8 := r_83
                    refine lv_lload hx hb dL_times_400 (lv_at hl 6 rfl) ?_
                    refine zl_sameN (tgt := 410) hx hb (by rfl) dL_times_402 dL_times_403 (by decide) ?_
                    refine lv_iconst (v := iI 1) hx hb dL_times_406 rfl ?_
                    refine lv_goto (tgt := 411) hx hb dL_times_407 (by decide) ?_
                    subst hQ
                    refine W.widen (k := 1) (n := 6) (by decide) (by decide) ?_
                    exact zret_z (W1 := fun u9 : (Int → Int) × (Int → Int) × (Int → Int) × Int × (Int → Int) × (Int → Int) × (Int → Int) × Int × (Int → Int) × Int × Int × Int × (Int → Int) × Int × (Int → Int) × Int × (Int → Int) => wPW cI cJ cZ q pw co la vo cpar fr cdee use (u9.2.2.2.2.2.2.2.2.1) nC (u9.1) (u9.2.1) (u9.2.2.1) (u9.2.2.2.1) (u9.2.2.2.2.1) (u9.2.2.2.2.2.1) (u9.2.2.2.2.2.2.1) (u9.2.2.2.2.2.2.2.1) (u9.2.2.2.2.2.2.2.2.2.2.2.2.2.2.1) (u9.2.2.2.2.2.2.2.2.2.2.2.2.2.2.2.1) tin (u9.2.2.2.2.2.2.2.2.2.2.1) (u9.2.2.2.2.2.2.2.2.2.2.2.1) slp late srv (u9.2.2.2.2.2.2.2.2.2.2.2.2.2.2.2.2) av bd sh sc lt rule now (u9.2.2.2.2.2.2.2.2.2.1) asl (u9.2.2.2.2.2.2.2.2.2.2.2.2.1) (u9.2.2.2.2.2.2.2.2.2.2.2.2.2.1) par div dee w) (tdue, tlat, twk, nT, edue, elat, ewk, nE, runx_86, st, sp, pe, idl, idn, len, cnt, hv) hx hb hr hP hD hS hlocks dL_times_411 (by first | decide | omega) (by first | exact ⟨rfl, lj_run hI8 hrun8⟩ | exact ⟨rfl, lj_mono (K2 := K + 200) (lj_run hI hrun8) (by omega)⟩)
                  · skip
                    exact absurd c_82 (by decide)
                · skip
                  exact absurd c_81 (by omega)
            · skip
              refine zc_i (vx_runSW (As := [.ref (q 0), .int (iI 6), .int (iI (now + t1)), .int (iI wk1), .int (iI 0)]) (rest := []) ⟨hx, hb, hml, hown, hts⟩ (kL_sets_bad6a l dC dI cI cJ cZ q pw co la vo cpar fr cdee use runx_5 nC tdue tlat twk nT edue elat ewk nE len cnt tin sp pe slp late srv hv av bd sh sc lt rule now st asl idl idn par div dee (now + t1) wk1 (by first | assumption | omega | exact b2i_01 _ | exact shr_r _ _) (by first | assumption | omega | exact b2i_01 _ | exact shr_r _ _) (by first | assumption | omega | exact b2i_01 _ | exact shr_r _ _) (by first | assumption | omega | exact b2i_01 _ | exact shr_r _ _) (by first | assumption | omega | exact b2i_01 _ | exact shr_r _ _) htr H.size) (vx_cwSW 5 hts gL_times_L_sets rfl rfl rfl (by decide +kernel) ⟨Nat.le_of_ble_eq_true rfl, Nat.le_of_ble_eq_true rfl⟩) (zyS hY hX hS hA hK hP hD [0, 1, 2, 3, 4, 5, 6, 7, 8, 9, 10, 11, 12, 13, 14, 15, 16, 17, 18, 19, 20, 21, 22, 23, 24, 25, 26, 27, 28] rfl rfl) rfl rfl hl.1 rfl (lv_room (Nat.le_of_ble_eq_true rfl)) dL_times_357 ⟨Nat.le_of_ble_eq_true rfl, Nat.le_of_ble_eq_true rfl⟩) hP hD hS hA [0, 1, 2, 3, 4, 5, 6, 7, 8, 9, 10, 11, 12, 13, 14, 15, 16, 17, 18, 19, 20, 21, 22, 23, 24, 25, 26, 27, 28] [29] rfl rfl rfl (by decide) (fun v_90 u_89 H locs r_88 hP hD hS => ?_)
              refine ze_i r_88 ?_
              have hP : va_P (dC, dI) vwCl (wPW cI cJ cZ q pw co la vo cpar fr cdee use runx_5 nC tdue tlat twk nT edue elat ewk nE len cnt tin sp pe slp late srv hv av bd sh sc lt rule now st asl idl idn par div dee w) H := hP.sub [1, 2, 3, 4, 5, 6, 7, 8, 9, 10, 11, 12, 13, 14, 15, 16, 17, 18, 19, 20, 21, 22, 23, 24, 25, 26, 27, 28, 29, 0] (z_fm rfl)
              have hD : va_D A (wPW cI cJ cZ q pw co la vo cpar fr cdee use runx_5 nC tdue tlat twk nT edue elat ewk nE len cnt tin sp pe slp late srv hv av bd sh sc lt rule now st asl idl idn par div dee w) := hD.sub [1, 2, 3, 4, 5, 6, 7, 8, 9, 10, 11, 12, 13, 14, 15, 16, 17, 18, 19, 20, 21, 22, 23, 24, 25, 26, 27, 28, 29, 0] (by decide) rfl
              refine lv_istore (lv' := [(15, .int (iI (-82))), (14, .int (iI bb)), (13, .int (iI (llZ tdue tlat (-1) 1000000000 nT))), (12, .int (iI nT)), (11, .int (iI wk1)), (10, .int (iI (now + t1))), (8, .long (lI (alZ pw co la vo use nC tdue tlat nT tin sp slp late srv av bd sh now st par dee))), (6, .long (lI sp)), (5, .int (iI st)), (4, .int (iI (smZ y 8))), (0, .ref (q 0)), (1, .ref (q 29)), (2, .int (iI y)), (3, .int (iI od))]) hx hb dL_times_360 hl (by decide) rfl (fun ls hl => ?_)
              refine lv_iload hx hb dL_times_362 (lv_at hl 1 rfl) ?_
              refine zi_feq (tgt := 377) hx hb (by omega) dL_times_364 (by decide) (fun c_91 => ?_) (fun c_91 => ?_)
              · skip
                exact absurd c_91 (by omega)
              · skip
                refine lv_iload hx hb dL_times_367 (lv_at hl 0 rfl) ?_
                refine lv_bipush (v := iI (-82)) hx hb dL_times_369 (by decide) ?_
                refine zi_cne (tgt := 410) hx hb (by decide) (by decide) dL_times_371 (by decide) (fun c_92 => ?_) (fun c_92 => ?_)
                · skip
                  exact absurd c_92 (by decide)
                · skip
                  refine lv_goto (tgt := 396) hx hb dL_times_374 (by decide) ?_
                  refine lv_aload_n hx hb dL_times_396 rfl (lv_at hl 10 rfl) ?_
                  refine zc_l (va_runS (As := [.ref (q 0)]) (rest := []) ⟨hx, hb, hml, hown, hts⟩ (kL_all l dC dI cI cJ cZ q pw co la vo cpar fr cdee use runx_5 nC tdue tlat twk nT edue elat ewk nE len cnt tin sp pe slp late srv hv av bd sh sc lt rule now st asl idl idn par div dee (by first | assumption | omega | exact b2i_01 _ | exact shr_r _ _) (by first | assumption | omega | exact b2i_01 _ | exact shr_r _ _) (by first | assumption | omega | exact b2i_01 _ | exact shr_r _ _) (by first | assumption | omega | exact b2i_01 _ | exact shr_r _ _) (by first | assumption | omega | exact b2i_01 _ | exact shr_r _ _) (by first | assumption | omega | exact b2i_01 _ | exact shr_r _ _) (by first | assumption | omega | exact b2i_01 _ | exact shr_r _ _) (by first | assumption | omega | exact b2i_01 _ | exact shr_r _ _) (by first | assumption | omega | exact b2i_01 _ | exact shr_r _ _) (by first | assumption | omega | exact b2i_01 _ | exact shr_r _ _) (by first | assumption | omega | exact b2i_01 _ | exact shr_r _ _) (by first | assumption | omega | exact b2i_01 _ | exact shr_r _ _) (by first | assumption | omega | exact b2i_01 _ | exact shr_r _ _) (by first | assumption | omega | exact b2i_01 _ | exact shr_r _ _) (by first | assumption | omega | exact b2i_01 _ | exact shr_r _ _) (by first | assumption | omega | exact b2i_01 _ | exact shr_r _ _) (by first | assumption | omega | exact b2i_01 _ | exact shr_r _ _) (by first | assumption | omega | exact b2i_01 _ | exact shr_r _ _) (by first | assumption | omega | exact b2i_01 _ | exact shr_r _ _) (by first | assumption | omega | exact b2i_01 _ | exact shr_r _ _) (by first | assumption | omega | exact b2i_01 _ | exact shr_r _ _) H.size) (va_cwS 1 hts gL_times_L_all rfl rfl rfl (by decide +kernel) ⟨Nat.le_of_ble_eq_true rfl, Nat.le_of_ble_eq_true rfl⟩) (zpS hK hP hD [0, 1, 2, 3, 4, 5, 6, 7, 8, 9, 10, 11, 12, 13, 14, 15, 16, 17, 18, 19, 20, 21, 22, 23, 24, 25, 26, 27, 28] rfl rfl) rfl rfl hl.1 rfl (lv_room (Nat.le_of_ble_eq_true rfl)) dL_times_397 ⟨Nat.le_of_ble_eq_true rfl, Nat.le_of_ble_eq_true rfl⟩) hP hD hS hA [0, 1, 2, 3, 4, 5, 6, 7, 8, 9, 10, 11, 12, 13, 14, 15, 16, 17, 18, 19, 20, 21, 22, 23, 24, 25, 26, 27, 28] [29] rfl rfl rfl (by decide) (fun v_95 u_94 H locs r_93 hP hD hS => ?_)
                  obtain ⟨runx_96, rfl⟩ : ∃ z, z = u_94 := ⟨_, rfl⟩
                  obtain ⟨v_97, r_93⟩ := r_93
                  refine ze_l v_97 ?_
                  have r_93 : tfZ runx_96 := r_93
                  have hP : va_P (dC, dI) vwCl (wPW cI cJ cZ q pw co la vo cpar fr cdee use runx_96 nC tdue tlat twk nT edue elat ewk nE len cnt tin sp pe slp late srv hv av bd sh sc lt rule now st asl idl idn par div dee w) H := hP.sub [1, 2, 3, 4, 5, 6, 7, 8, 9, 10, 11, 12, 13, 14, 15, 16, 17, 18, 19, 20, 21, 22, 23, 24, 25, 26, 27, 28, 29, 0] (z_fm rfl)
                  have hD : va_D A (wPW cI cJ cZ q pw co la vo cpar fr cdee use runx_96 nC tdue tlat twk nT edue elat ewk nE len cnt tin sp pe slp late srv hv av bd sh sc lt rule now st asl idl idn par div dee w) := hD.sub [1, 2, 3, 4, 5, 6, 7, 8, 9, 10, 11, 12, 13, 14, 15, 16, 17, 18, 19, 20, 21, 22, 23, 24, 25, 26, 27, 28, 29, 0] (by decide) rfl
                  have hrun8 := r_93
                  refine lv_lload hx hb dL_times_400 (lv_at hl 6 rfl) ?_
                  refine zl_sameN (tgt := 410) hx hb (by rfl) dL_times_402 dL_times_403 (by decide) ?_
                  refine lv_iconst (v := iI 1) hx hb dL_times_406 rfl ?_
                  refine lv_goto (tgt := 411) hx hb dL_times_407 (by decide) ?_
                  subst hQ
                  refine W.widen (k := 1) (n := 6) (by decide) (by decide) ?_
                  exact zret_z (W1 := fun u9 : (Int → Int) × (Int → Int) × (Int → Int) × Int × (Int → Int) × (Int → Int) × (Int → Int) × Int × (Int → Int) × Int × Int × Int × (Int → Int) × Int × (Int → Int) × Int × (Int → Int) => wPW cI cJ cZ q pw co la vo cpar fr cdee use (u9.2.2.2.2.2.2.2.2.1) nC (u9.1) (u9.2.1) (u9.2.2.1) (u9.2.2.2.1) (u9.2.2.2.2.1) (u9.2.2.2.2.2.1) (u9.2.2.2.2.2.2.1) (u9.2.2.2.2.2.2.2.1) (u9.2.2.2.2.2.2.2.2.2.2.2.2.2.2.1) (u9.2.2.2.2.2.2.2.2.2.2.2.2.2.2.2.1) tin (u9.2.2.2.2.2.2.2.2.2.2.1) (u9.2.2.2.2.2.2.2.2.2.2.2.1) slp late srv (u9.2.2.2.2.2.2.2.2.2.2.2.2.2.2.2.2) av bd sh sc lt rule now (u9.2.2.2.2.2.2.2.2.2.1) asl (u9.2.2.2.2.2.2.2.2.2.2.2.2.1) (u9.2.2.2.2.2.2.2.2.2.2.2.2.2.1) par div dee w) (tdue, tlat, twk, nT, edue, elat, ewk, nE, runx_96, st, sp, pe, idl, idn, len, cnt, hv) hx hb hr hP hD hS hlocks dL_times_411 (by first | decide | omega) (by first | exact ⟨rfl, lj_run hI8 hrun8⟩ | exact ⟨rfl, lj_mono (K2 := K + 200) (lj_run hI hrun8) (by omega)⟩)
        · skip
          have L178 : ∀ (sl : Int), (-5 ≤ sl ∧ sl ≤ 510) → ∀ (H : Heap) (locs : List Loc), va_P (dC, dI) vwCl (wPW cI cJ cZ q pw co la vo cpar fr cdee use runx_5 nC tdue tlat twk nT edue elat ewk nE len cnt tin sp pe slp late srv hv av bd sh sc lt rule now st asl idl idn par div dee w) H → va_D A (wPW cI cJ cZ q pw co la vo cpar fr cdee use runx_5 nC tdue tlat twk nT edue elat ewk nE len cnt tin sp pe slp late srv hv av bd sh sc lt rule now st asl idl idn par div dee w) → va_S A s.heap H locs → ∀ ls : Array Slot, lv_has ls 18 [(14, .int (iI bb)), (13, .int (iI (llZ tdue tlat (-1) 1000000000 nT))), (12, .int (iI nT)), (11, .int (iI wk1)), (10, .int (iI (now + t1))), (8, .long (lI (alZ pw co la vo use nC tdue tlat nT tin sp slp late srv av bd sh now st par dee))), (6, .long (lI sp)), (5, .int (iI st)), (4, .int (iI (smZ y 8))), (0, .ref (q 0)), (1, .ref (q 29)), (2, .int (iI y)), (3, .int (iI od))] → W p l e rmL_times s m ([.ref (q 0), .ref (q 29), .int (iI y), .int (iI od)] : List Value).toArray below meth c H locs 0 0 Q (F0 m 178 ls [.int (iI sl)]) := by
            intro sl hsl H locs hP hD hS ls hl
            refine lv_istore (lv' := [(15, .int (iI sl)), (14, .int (iI bb)), (13, .int (iI (llZ tdue tlat (-1) 1000000000 nT))), (12, .int (iI nT)), (11, .int (iI wk1)), (10, .int (iI (now + t1))), (8, .long (lI (alZ pw co la vo use nC tdue tlat nT tin sp slp late srv av bd sh now st par dee))), (6, .long (lI sp)), (5, .int (iI st)), (4, .int (iI (smZ y 8))), (0, .ref (q 0)), (1, .ref (q 29)), (2, .int (iI y)), (3, .int (iI od))]) hx hb dL_times_178 hl (by decide) rfl (fun ls hl => ?_)
            refine lv_aload_n hx hb dL_times_180 rfl (lv_at hl 10 rfl) ?_
            refine lv_iconst (v := iI 5) hx hb dL_times_181 rfl ?_
            refine lv_iload hx hb dL_times_182 (lv_at hl 5 rfl) ?_
            refine lv_iload hx hb dL_times_184 (lv_at hl 0 rfl) ?_
            refine lv_iload hx hb dL_times_186 (lv_at hl 4 rfl) ?_
            by_cases c_98 : (now ≤ now + t1 ∧ now + t1 ≤ now + 1000) ∧ (0 ≤ sl ∧ sl ≤ 500) ∧ (1 ≤ wk1 ∧ wk1 ≤ 50)
            · skip
              by_cases c_99 : nT < 12
              · skip
                refine zc_i (vx_runSW (As := [.ref (q 0), .int (iI 5), .int (iI (now + t1)), .int (iI sl), .int (iI wk1)]) (rest := []) ⟨hx, hb, hml, hown, hts⟩ (kL_sets_ok5 l dC dI cI cJ cZ q pw co la vo cpar fr cdee use runx_5 nC tdue tlat twk nT edue elat ewk nE len cnt tin sp pe slp late srv hv av bd sh sc lt rule now st asl idl idn par div dee (now + t1) sl wk1 (by first | assumption | omega | exact b2i_01 _ | exact shr_r _ _) (by first | assumption | omega | exact b2i_01 _ | exact shr_r _ _) (by first | assumption | omega | exact b2i_01 _ | exact shr_r _ _) (by first | assumption | omega | exact b2i_01 _ | exact shr_r _ _) (by first | assumption | omega | exact b2i_01 _ | exact shr_r _ _) (by first | assumption | omega | exact b2i_01 _ | exact shr_r _ _) (by first | assumption | omega | exact b2i_01 _ | exact shr_r _ _) (by first | assumption | omega | exact b2i_01 _ | exact shr_r _ _) (by first | assumption | omega | exact b2i_01 _ | exact shr_r _ _) (by first | assumption | omega | exact b2i_01 _ | exact shr_r _ _) (by first | assumption | omega | exact b2i_01 _ | exact shr_r _ _) (by first | assumption | omega | exact b2i_01 _ | exact shr_r _ _) H.size) (vx_cwSW 5 hts gL_times_L_sets rfl rfl rfl (by decide +kernel) ⟨Nat.le_of_ble_eq_true rfl, Nat.le_of_ble_eq_true rfl⟩) (zpS hK hP hD [0, 1, 2, 3, 4, 5, 6, 7, 8, 9, 10, 11, 12, 13, 14, 15, 16, 17, 18, 19, 20, 21, 22, 23, 24, 25, 26, 27, 28] rfl rfl) rfl rfl hl.1 rfl (lv_room (Nat.le_of_ble_eq_true rfl)) dL_times_188 ⟨Nat.le_of_ble_eq_true rfl, Nat.le_of_ble_eq_true rfl⟩) hP hD hS hA [0, 1, 2, 3, 4, 5, 6, 7, 8, 9, 10, 11, 12, 13, 14, 15, 16, 17, 18, 19, 20, 21, 22, 23, 24, 25, 26, 27, 28] [29] rfl rfl rfl (by decide) (fun v_102 u_101 H locs r_100 hP hD hS => ?_)
                obtain ⟨stx_103, spx_104, pex_105, idlx_106, idnx_107, lenx_108, cntx_109⟩ := u_101
                obtain ⟨v_110, r_100⟩ := r_100
                refine ze_i v_110 ?_
                have r_100 : (stx_103, spx_104, pex_105, idlx_106, idnx_107) = scF pw la st asl now sp pe idl idn ∧ idR lenx_108 cntx_109 idlx_106 idnx_107 := r_100
                have hP : va_P (dC, dI) vwCl (wPW cI cJ cZ q pw co la vo cpar fr cdee use runx_5 nC (uZ tdue nT (now + t1)) (uZ tlat nT ((now + t1) + sl)) (uZ twk nT wk1) (nT + 1) edue elat ewk nE lenx_108 cntx_109 tin spx_104 pex_105 slp late srv hv av bd sh sc lt rule now stx_103 asl idlx_106 idnx_107 par div dee w) H := hP.sub [1, 2, 3, 4, 5, 6, 7, 8, 9, 10, 11, 12, 13, 14, 15, 16, 17, 18, 19, 20, 21, 22, 23, 24, 25, 26, 27, 28, 29, 0] (z_fm rfl)
                have hD : va_D A (wPW cI cJ cZ q pw co la vo cpar fr cdee use runx_5 nC (uZ tdue nT (now + t1)) (uZ tlat nT ((now + t1) + sl)) (uZ twk nT wk1) (nT + 1) edue elat ewk nE lenx_108 cntx_109 tin spx_104 pex_105 slp late srv hv av bd sh sc lt rule now stx_103 asl idlx_106 idnx_107 par div dee w) := hD.sub [1, 2, 3, 4, 5, 6, 7, 8, 9, 10, 11, 12, 13, 14, 15, 16, 17, 18, 19, 20, 21, 22, 23, 24, 25, 26, 27, 28, 29, 0] (by decide) rfl
                obtain ⟨hsc9, hid9⟩ := r_100
                have hwk9 := sc_f hsc9
                have hI6 := lj_sc hI5 (by omega) hsc9 hid9
                have hI8 := lj_sched hI6 (x1 := now + t1) (x2 := sl) (x3 := wk1) (by omega) (by omega) (by omega) (by omega) (by omega)
                have g1 : rgZ (uZ tdue nT (now + t1)) 12 1000000 := rgZ_u i5 (by omega)
                have g2 : rgZ (uZ tlat nT (now + t1 + sl)) 12 1000000 := rgZ_u i6 (by omega)
                have g3 : rgZ (uZ twk nT wk1) 12 50 := rgZ_u i7 (by omega)
                have hll9 := ll_sched (due := tdue) (lat := tlat) (n := nT) (d := now + t1) (x := now + t1 + sl) i4 (by omega) (by omega)
                refine lv_istore (lv' := [(16, .int (iI (nT + 1))), (15, .int (iI sl)), (14, .int (iI bb)), (13, .int (iI (llZ tdue tlat (-1) 1000000000 nT))), (12, .int (iI nT)), (11, .int (iI wk1)), (10, .int (iI (now + t1))), (8, .long (lI (alZ pw co la vo use nC tdue tlat nT tin sp slp late srv av bd sh now st par dee))), (6, .long (lI sp)), (5, .int (iI st)), (4, .int (iI (smZ y 8))), (0, .ref (q 0)), (1, .ref (q 29)), (2, .int (iI y)), (3, .int (iI od))]) hx hb dL_times_191 hl (by decide) rfl (fun ls hl => ?_)
                refine lv_iload hx hb dL_times_193 (lv_at hl 2 rfl) ?_
                refine zi_fne (tgt := 218) hx hb (by omega) dL_times_195 (by decide) (fun c_111 => ?_) (fun c_111 => ?_)
                · skip
                  exact absurd c_111 (by omega)
                · skip
                  refine lv_iload hx hb dL_times_198 (lv_at hl 1 rfl) ?_
                  refine zi_flt (tgt := 218) hx hb (by omega) dL_times_200 (by decide) (fun c_112 => ?_) (fun c_112 => ?_)
                  · skip
                    exact absurd c_112 (by omega)
                  · skip
                    refine lv_iload hx hb dL_times_203 (lv_at hl 1 rfl) ?_
                    refine lv_sipush (v := iI 500) hx hb dL_times_205 (by decide) ?_
                    refine zi_cgt (tgt := 218) hx hb (by omega) (by decide) dL_times_208 (by decide) (fun c_113 => ?_) (fun c_113 => ?_)
                    · skip
                      exact absurd c_113 (by omega)
                    · skip
                      refine lv_iload hx hb dL_times_211 (lv_at hl 4 rfl) ?_
                      refine lv_bipush (v := iI 12) hx hb dL_times_213 (by decide) ?_
                      refine zi_cne (tgt := 264) hx hb (by omega) (by decide) dL_times_215 (by decide) (fun c_114 => ?_) (fun c_114 => ?_)
                      · skip
                        refine lv_iload hx hb dL_times_264 (lv_at hl 0 rfl) ?_
                        refine lv_iload hx hb dL_times_266 (lv_at hl 4 rfl) ?_
                        refine lv_iconst (v := iI 1) hx hb dL_times_268 rfl ?_
                        refine zi_add hx hb dL_times_269 ?_
                        refine zi_sameN (tgt := 340) hx hb (by rfl) dL_times_270 (by decide) ?_
                        refine lv_aload_n hx hb dL_times_273 rfl (lv_at hl 11 rfl) ?_
                        refine zc_pi (va_runV (As := []) (rest := []) ⟨hx, hb, hml, hown, hts⟩ (kX7_timers l dC dI cI cJ cZ q pw co la vo cpar fr cdee use runx_5 nC (uZ tdue nT (now + t1)) (uZ tlat nT ((now + t1) + sl)) (uZ twk nT wk1) (nT + 1) edue elat ewk nE lenx_108 cntx_109 tin spx_104 pex_105 slp late srv hv av bd sh sc lt rule now stx_103 asl idlx_106 idnx_107 par div dee) (cwV 0 hts gL_times_X7_timers rfl rfl rfl (by decide +kernel) ⟨Nat.le_of_ble_eq_true rfl, Nat.le_of_ble_eq_true rfl⟩) (zqV hK hP [0, 1, 2, 3, 4, 5, 6, 7, 8, 9, 10, 11, 12, 13, 14, 15, 16, 17, 18, 19, 20, 21, 22, 23, 24, 25, 26, 27, 28] rfl 0 rfl rfl) rfl rfl hl.1 rfl (lv_room (Nat.le_of_ble_eq_true rfl)) dL_times_274 ⟨Nat.le_of_ble_eq_true rfl, Nat.le_of_ble_eq_true rfl⟩) ?_
                        refine lv_iload hx hb dL_times_277 (lv_at hl 0 rfl) ?_
                        refine zi_sameN (tgt := 340) hx hb (by rfl) dL_times_279 (by decide) ?_
                        refine lv_aload_n hx hb dL_times_282 rfl (lv_at hl 11 rfl) ?_
                        refine zc_pi (va_runV (As := []) (rest := []) ⟨hx, hb, hml, hown, hts⟩ (kX7_nextWakeup l dC dI cI cJ cZ q pw co la vo cpar fr cdee use runx_5 nC (uZ tdue nT (now + t1)) (uZ tlat nT ((now + t1) + sl)) (uZ twk nT wk1) (nT + 1) edue elat ewk nE lenx_108 cntx_109 tin spx_104 pex_105 slp late srv hv av bd sh sc lt rule now stx_103 asl idlx_106 idnx_107 par div dee (by first | assumption | omega | exact b2i_01 _ | exact shr_r _ _) (by first | assumption | omega | exact b2i_01 _ | exact shr_r _ _) (by first | assumption | omega | exact b2i_01 _ | exact shr_r _ _) (by first | assumption | omega | exact b2i_01 _ | exact shr_r _ _)) (cwV 0 hts gL_times_X7_nextWakeup rfl rfl rfl (by decide +kernel) ⟨Nat.le_of_ble_eq_true rfl, Nat.le_of_ble_eq_true rfl⟩) (zqV hK hP [0, 1, 2, 3, 4, 5, 6, 7, 8, 9, 10, 11, 12, 13, 14, 15, 16, 17, 18, 19, 20, 21, 22, 23, 24, 25, 26, 27, 28] rfl 0 rfl rfl) rfl rfl hl.1 rfl (lv_room (Nat.le_of_ble_eq_true rfl)) dL_times_283 ⟨Nat.le_of_ble_eq_true rfl, Nat.le_of_ble_eq_true rfl⟩) ?_
                        refine lv_iload hx hb dL_times_286 (lv_at hl 3 rfl) ?_
                        refine zi_flt (tgt := 301) hx hb (by omega) dL_times_288 (by decide) (fun c_115 => ?_) (fun c_115 => ?_)
                        · skip
                          refine lv_iload hx hb dL_times_301 (lv_at hl 6 rfl) ?_
                          refine lv_iload hx hb dL_times_303 (lv_at hl 1 rfl) ?_
                          refine zi_add hx hb dL_times_305 ?_
                          refine lv_goto (tgt := 311) hx hb dL_times_306 (by decide) ?_
                          refine zi_sameN (tgt := 340) hx hb (by rw [hll9]; first | (rw [if_pos (by omega)]; done) | (rw [if_neg (by omega)]; done)) dL_times_311 (by decide) ?_
                          refine lv_aload_n hx hb dL_times_314 rfl (lv_at hl 11 rfl) ?_
                          refine lv_iload hx hb dL_times_315 (lv_at hl 9 rfl) ?_
                          refine lv_lload hx hb dL_times_317 (lv_at hl 8 rfl) ?_
                          refine lv_aload_n hx hb dL_times_319 rfl (lv_at hl 12 rfl) ?_
                          refine lv_iconst (v := iI 0) hx hb dL_times_320 rfl ?_
                          refine za_ld hx hb hK hP 29 0 rfl rfl (by omega) (by omega) dL_times_321 ?_
                          refine ze_i (y := pw 0) (by exact hw0 _ (by omega) (by omega)) ?_
                          refine lv_aload_n hx hb dL_times_322 rfl (lv_at hl 12 rfl) ?_
                          refine lv_bipush (v := iI 8) hx hb dL_times_323 (by decide) ?_
                          refine lv_iload hx hb dL_times_325 (lv_at hl 9 rfl) ?_
                          refine zi_add hx hb dL_times_327 ?_
                          refine za_ld hx hb hK hP 29 0 rfl rfl (by omega) (by omega) dL_times_328 ?_
                          refine ze_i (y := la st) (by exact hw8 _ (by omega) (by omega)) ?_
                          refine zi_mul hx hb dL_times_329 ?_
                          refine zc_pi (va_runS (As := [.ref (q 0), .int (iI st), .long (lI sp), .int (iI ((pw 0) * (la st)))]) (rest := []) ⟨hx, hb, hml, hown, hts⟩ (kL_woke l dC dI cI cJ cZ q pw co la vo cpar fr cdee use runx_5 nC (uZ tdue nT (now + t1)) (uZ tlat nT ((now + t1) + sl)) (uZ twk nT wk1) (nT + 1) edue elat ewk nE lenx_108 cntx_109 tin spx_104 pex_105 slp late srv hv av bd sh sc lt rule now stx_103 asl idlx_106 idnx_107 par div dee st sp ((pw 0) * (la st)) (hwk9.1) (hwk9.2) (by first | assumption | omega | exact b2i_01 _ | exact shr_r _ _) (by first | assumption | omega | exact b2i_01 _ | exact shr_r _ _)) (va_cwS 4 hts gL_times_L_woke rfl rfl rfl (by decide +kernel) ⟨Nat.le_of_ble_eq_true rfl, Nat.le_of_ble_eq_true rfl⟩) (zqS hK hP [0, 1, 2, 3, 4, 5, 6, 7, 8, 9, 10, 11, 12, 13, 14, 15, 16, 17, 18, 19, 20, 21, 22, 23, 24, 25, 26, 27, 28] rfl) rfl rfl hl.1 rfl (lv_room (Nat.le_of_ble_eq_true rfl)) dL_times_330 ⟨Nat.le_of_ble_eq_true rfl, Nat.le_of_ble_eq_true rfl⟩) ?_
                          refine zi_feq (tgt := 340) hx hb (by decide) dL_times_333 (by decide) (fun c_116 => ?_) (fun c_116 => ?_)
                          · skip
                            exact absurd c_116 (by decide)
                          · skip
                            refine lv_iconst (v := iI 1) hx hb dL_times_336 rfl ?_
                            refine lv_goto (tgt := 341) hx hb dL_times_337 (by decide) ?_
                            subst hQ
                            refine W.widen (k := 1) (n := 6) (by decide) (by decide) ?_
                            exact zret_z (W1 := fun u9 : (Int → Int) × (Int → Int) × (Int → Int) × Int × (Int → Int) × (Int → Int) × (Int → Int) × Int × (Int → Int) × Int × Int × Int × (Int → Int) × Int × (Int → Int) × Int × (Int → Int) => wPW cI cJ cZ q pw co la vo cpar fr cdee use (u9.2.2.2.2.2.2.2.2.1) nC (u9.1) (u9.2.1) (u9.2.2.1) (u9.2.2.2.1) (u9.2.2.2.2.1) (u9.2.2.2.2.2.1) (u9.2.2.2.2.2.2.1) (u9.2.2.2.2.2.2.2.1) (u9.2.2.2.2.2.2.2.2.2.2.2.2.2.2.1) (u9.2.2.2.2.2.2.2.2.2.2.2.2.2.2.2.1) tin (u9.2.2.2.2.2.2.2.2.2.2.1) (u9.2.2.2.2.2.2.2.2.2.2.2.1) slp late srv (u9.2.2.2.2.2.2.2.2.2.2.2.2.2.2.2.2) av bd sh sc lt rule now (u9.2.2.2.2.2.2.2.2.2.1) asl (u9.2.2.2.2.2.2.2.2.2.2.2.2.1) (u9.2.2.2.2.2.2.2.2.2.2.2.2.2.1) par div dee w) (uZ tdue nT (now + t1), uZ tlat nT ((now + t1) + sl), uZ twk nT wk1, nT + 1, edue, elat, ewk, nE, runx_5, stx_103, spx_104, pex_105, idlx_106, idnx_107, lenx_108, cntx_109, hv) hx hb hr hP hD hS hlocks dL_times_341 (by first | decide | omega) (by exact ⟨rfl, hI8⟩)
                        · skip
                          refine lv_iload hx hb dL_times_291 (lv_at hl 6 rfl) ?_
                          refine lv_iload hx hb dL_times_293 (lv_at hl 1 rfl) ?_
                          refine zi_add hx hb dL_times_295 ?_
                          refine lv_iload hx hb dL_times_296 (lv_at hl 3 rfl) ?_
                          refine zi_cge (tgt := 309) hx hb (by omega) (by omega) dL_times_298 (by decide) (fun c_117 => ?_) (fun c_117 => ?_)
                          · skip
                            refine lv_iload hx hb dL_times_309 (lv_at hl 3 rfl) ?_
                            refine zi_sameN (tgt := 340) hx hb (by rw [hll9]; first | (rw [if_pos (by omega)]; done) | (rw [if_neg (by omega)]; done)) dL_times_311 (by decide) ?_
                            refine lv_aload_n hx hb dL_times_314 rfl (lv_at hl 11 rfl) ?_
                            refine lv_iload hx hb dL_times_315 (lv_at hl 9 rfl) ?_
                            refine lv_lload hx hb dL_times_317 (lv_at hl 8 rfl) ?_
                            refine lv_aload_n hx hb dL_times_319 rfl (lv_at hl 12 rfl) ?_
                            refine lv_iconst (v := iI 0) hx hb dL_times_320 rfl ?_
                            refine za_ld hx hb hK hP 29 0 rfl rfl (by omega) (by omega) dL_times_321 ?_
                            refine ze_i (y := pw 0) (by exact hw0 _ (by omega) (by omega)) ?_
                            refine lv_aload_n hx hb dL_times_322 rfl (lv_at hl 12 rfl) ?_
                            refine lv_bipush (v := iI 8) hx hb dL_times_323 (by decide) ?_
                            refine lv_iload hx hb dL_times_325 (lv_at hl 9 rfl) ?_
                            refine zi_add hx hb dL_times_327 ?_
                            refine za_ld hx hb hK hP 29 0 rfl rfl (by omega) (by omega) dL_times_328 ?_
                            refine ze_i (y := la st) (by exact hw8 _ (by omega) (by omega)) ?_
                            refine zi_mul hx hb dL_times_329 ?_
                            refine zc_pi (va_runS (As := [.ref (q 0), .int (iI st), .long (lI sp), .int (iI ((pw 0) * (la st)))]) (rest := []) ⟨hx, hb, hml, hown, hts⟩ (kL_woke l dC dI cI cJ cZ q pw co la vo cpar fr cdee use runx_5 nC (uZ tdue nT (now + t1)) (uZ tlat nT ((now + t1) + sl)) (uZ twk nT wk1) (nT + 1) edue elat ewk nE lenx_108 cntx_109 tin spx_104 pex_105 slp late srv hv av bd sh sc lt rule now stx_103 asl idlx_106 idnx_107 par div dee st sp ((pw 0) * (la st)) (hwk9.1) (hwk9.2) (by first | assumption | omega | exact b2i_01 _ | exact shr_r _ _) (by first | assumption | omega | exact b2i_01 _ | exact shr_r _ _)) (va_cwS 4 hts gL_times_L_woke rfl rfl rfl (by decide +kernel) ⟨Nat.le_of_ble_eq_true rfl, Nat.le_of_ble_eq_true rfl⟩) (zqS hK hP [0, 1, 2, 3, 4, 5, 6, 7, 8, 9, 10, 11, 12, 13, 14, 15, 16, 17, 18, 19, 20, 21, 22, 23, 24, 25, 26, 27, 28] rfl) rfl rfl hl.1 rfl (lv_room (Nat.le_of_ble_eq_true rfl)) dL_times_330 ⟨Nat.le_of_ble_eq_true rfl, Nat.le_of_ble_eq_true rfl⟩) ?_
                            refine zi_feq (tgt := 340) hx hb (by decide) dL_times_333 (by decide) (fun c_118 => ?_) (fun c_118 => ?_)
                            · skip
                              exact absurd c_118 (by decide)
                            · skip
                              refine lv_iconst (v := iI 1) hx hb dL_times_336 rfl ?_
                              refine lv_goto (tgt := 341) hx hb dL_times_337 (by decide) ?_
                              subst hQ
                              refine W.widen (k := 1) (n := 6) (by decide) (by decide) ?_
                              exact zret_z (W1 := fun u9 : (Int → Int) × (Int → Int) × (Int → Int) × Int × (Int → Int) × (Int → Int) × (Int → Int) × Int × (Int → Int) × Int × Int × Int × (Int → Int) × Int × (Int → Int) × Int × (Int → Int) => wPW cI cJ cZ q pw co la vo cpar fr cdee use (u9.2.2.2.2.2.2.2.2.1) nC (u9.1) (u9.2.1) (u9.2.2.1) (u9.2.2.2.1) (u9.2.2.2.2.1) (u9.2.2.2.2.2.1) (u9.2.2.2.2.2.2.1) (u9.2.2.2.2.2.2.2.1) (u9.2.2.2.2.2.2.2.2.2.2.2.2.2.2.1) (u9.2.2.2.2.2.2.2.2.2.2.2.2.2.2.2.1) tin (u9.2.2.2.2.2.2.2.2.2.2.1) (u9.2.2.2.2.2.2.2.2.2.2.2.1) slp late srv (u9.2.2.2.2.2.2.2.2.2.2.2.2.2.2.2.2) av bd sh sc lt rule now (u9.2.2.2.2.2.2.2.2.2.1) asl (u9.2.2.2.2.2.2.2.2.2.2.2.2.1) (u9.2.2.2.2.2.2.2.2.2.2.2.2.2.1) par div dee w) (uZ tdue nT (now + t1), uZ tlat nT ((now + t1) + sl), uZ twk nT wk1, nT + 1, edue, elat, ewk, nE, runx_5, stx_103, spx_104, pex_105, idlx_106, idnx_107, lenx_108, cntx_109, hv) hx hb hr hP hD hS hlocks dL_times_341 (by first | decide | omega) (by exact ⟨rfl, hI8⟩)
                          · skip
                            refine lv_iload hx hb dL_times_301 (lv_at hl 6 rfl) ?_
                            refine lv_iload hx hb dL_times_303 (lv_at hl 1 rfl) ?_
                            refine zi_add hx hb dL_times_305 ?_
                            refine lv_goto (tgt := 311) hx hb dL_times_306 (by decide) ?_
                            refine zi_sameN (tgt := 340) hx hb (by rw [hll9]; first | (rw [if_pos (by omega)]; done) | (rw [if_neg (by omega)]; done)) dL_times_311 (by decide) ?_
                            refine lv_aload_n hx hb dL_times_314 rfl (lv_at hl 11 rfl) ?_
                            refine lv_iload hx hb dL_times_315 (lv_at hl 9 rfl) ?_
                            refine lv_lload hx hb dL_times_317 (lv_at hl 8 rfl) ?_
                            refine lv_aload_n hx hb dL_times_319 rfl (lv_at hl 12 rfl) ?_
                            refine lv_iconst (v := iI 0) hx hb dL_times_320 rfl ?_
                            refine za_ld hx hb hK hP 29 0 rfl rfl (by omega) (by omega) dL_times_321 ?_
                            refine ze_i (y := pw 0) (by exact hw0 _ (by omega) (by omega)) ?_
                            refine lv_aload_n hx hb dL_times_322 rfl (lv_at hl 12 rfl) ?_
                            refine lv_bipush (v := iI 8) hx hb dL_times_323 (by decide) ?_
                            refine lv_iload hx hb dL_times_325 (lv_at hl 9 rfl) ?_
                            refine zi_add hx hb dL_times_327 ?_
                            refine za_ld hx hb hK hP 29 0 rfl rfl (by omega) (by omega) dL_times_328 ?_
                            refine ze_i (y := la st) (by exact hw8 _ (by omega) (by omega)) ?_
                            refine zi_mul hx hb dL_times_329 ?_
                            refine zc_pi (va_runS (As := [.ref (q 0), .int (iI st), .long (lI sp), .int (iI ((pw 0) * (la st)))]) (rest := []) ⟨hx, hb, hml, hown, hts⟩ (kL_woke l dC dI cI cJ cZ q pw co la vo cpar fr cdee use runx_5 nC (uZ tdue nT (now + t1)) (uZ tlat nT ((now + t1) + sl)) (uZ twk nT wk1) (nT + 1) edue elat ewk nE lenx_108 cntx_109 tin spx_104 pex_105 slp late srv hv av bd sh sc lt rule now stx_103 asl idlx_106 idnx_107 par div dee st sp ((pw 0) * (la st)) (hwk9.1) (hwk9.2) (by first | assumption | omega | exact b2i_01 _ | exact shr_r _ _) (by first | assumption | omega | exact b2i_01 _ | exact shr_r _ _)) (va_cwS 4 hts gL_times_L_woke rfl rfl rfl (by decide +kernel) ⟨Nat.le_of_ble_eq_true rfl, Nat.le_of_ble_eq_true rfl⟩) (zqS hK hP [0, 1, 2, 3, 4, 5, 6, 7, 8, 9, 10, 11, 12, 13, 14, 15, 16, 17, 18, 19, 20, 21, 22, 23, 24, 25, 26, 27, 28] rfl) rfl rfl hl.1 rfl (lv_room (Nat.le_of_ble_eq_true rfl)) dL_times_330 ⟨Nat.le_of_ble_eq_true rfl, Nat.le_of_ble_eq_true rfl⟩) ?_
                            refine zi_feq (tgt := 340) hx hb (by decide) dL_times_333 (by decide) (fun c_119 => ?_) (fun c_119 => ?_)
                            · skip
                              exact absurd c_119 (by decide)
                            · skip
                              refine lv_iconst (v := iI 1) hx hb dL_times_336 rfl ?_
                              refine lv_goto (tgt := 341) hx hb dL_times_337 (by decide) ?_
                              subst hQ
                              refine W.widen (k := 1) (n := 6) (by decide) (by decide) ?_
                              exact zret_z (W1 := fun u9 : (Int → Int) × (Int → Int) × (Int → Int) × Int × (Int → Int) × (Int → Int) × (Int → Int) × Int × (Int → Int) × Int × Int × Int × (Int → Int) × Int × (Int → Int) × Int × (Int → Int) => wPW cI cJ cZ q pw co la vo cpar fr cdee use (u9.2.2.2.2.2.2.2.2.1) nC (u9.1) (u9.2.1) (u9.2.2.1) (u9.2.2.2.1) (u9.2.2.2.2.1) (u9.2.2.2.2.2.1) (u9.2.2.2.2.2.2.1) (u9.2.2.2.2.2.2.2.1) (u9.2.2.2.2.2.2.2.2.2.2.2.2.2.2.1) (u9.2.2.2.2.2.2.2.2.2.2.2.2.2.2.2.1) tin (u9.2.2.2.2.2.2.2.2.2.2.1) (u9.2.2.2.2.2.2.2.2.2.2.2.1) slp late srv (u9.2.2.2.2.2.2.2.2.2.2.2.2.2.2.2.2) av bd sh sc lt rule now (u9.2.2.2.2.2.2.2.2.2.1) asl (u9.2.2.2.2.2.2.2.2.2.2.2.2.1) (u9.2.2.2.2.2.2.2.2.2.2.2.2.2.1) par div dee w) (uZ tdue nT (now + t1), uZ tlat nT ((now + t1) + sl), uZ twk nT wk1, nT + 1, edue, elat, ewk, nE, runx_5, stx_103, spx_104, pex_105, idlx_106, idnx_107, lenx_108, cntx_109, hv) hx hb hr hP hD hS hlocks dL_times_341 (by first | decide | omega) (by exact ⟨rfl, hI8⟩)
                      · skip
                        exact absurd c_114 (by omega)
              · skip
                refine zc_i (vx_runSW (As := [.ref (q 0), .int (iI 5), .int (iI (now + t1)), .int (iI sl), .int (iI wk1)]) (rest := []) ⟨hx, hb, hml, hown, hts⟩ (kL_sets_bad5s l dC dI cI cJ cZ q pw co la vo cpar fr cdee use runx_5 nC tdue tlat twk nT edue elat ewk nE len cnt tin sp pe slp late srv hv av bd sh sc lt rule now st asl idl idn par div dee (now + t1) sl wk1 (by first | assumption | omega | exact b2i_01 _ | exact shr_r _ _) (by first | assumption | omega | exact b2i_01 _ | exact shr_r _ _) (by first | assumption | omega | exact b2i_01 _ | exact shr_r _ _) (by first | assumption | omega | exact b2i_01 _ | exact shr_r _ _) (by first | assumption | omega | exact b2i_01 _ | exact shr_r _ _) (by first | assumption | omega | exact b2i_01 _ | exact shr_r _ _) (by first | assumption | omega | exact b2i_01 _ | exact shr_r _ _) (by first | assumption | omega | exact b2i_01 _ | exact shr_r _ _) (by first | assumption | omega | exact b2i_01 _ | exact shr_r _ _) (by first | assumption | omega | exact b2i_01 _ | exact shr_r _ _) (by first | assumption | omega | exact b2i_01 _ | exact shr_r _ _) (by first | assumption | omega | exact b2i_01 _ | exact shr_r _ _) htr H.size) (vx_cwSW 5 hts gL_times_L_sets rfl rfl rfl (by decide +kernel) ⟨Nat.le_of_ble_eq_true rfl, Nat.le_of_ble_eq_true rfl⟩) (zyS hY hX hS hA hK hP hD [0, 1, 2, 3, 4, 5, 6, 7, 8, 9, 10, 11, 12, 13, 14, 15, 16, 17, 18, 19, 20, 21, 22, 23, 24, 25, 26, 27, 28] rfl rfl) rfl rfl hl.1 rfl (lv_room (Nat.le_of_ble_eq_true rfl)) dL_times_188 ⟨Nat.le_of_ble_eq_true rfl, Nat.le_of_ble_eq_true rfl⟩) hP hD hS hA [0, 1, 2, 3, 4, 5, 6, 7, 8, 9, 10, 11, 12, 13, 14, 15, 16, 17, 18, 19, 20, 21, 22, 23, 24, 25, 26, 27, 28] [29] rfl rfl rfl (by decide) (fun v_122 u_121 H locs r_120 hP hD hS => ?_)
                refine ze_i r_120 ?_
                have hP : va_P (dC, dI) vwCl (wPW cI cJ cZ q pw co la vo cpar fr cdee use runx_5 nC tdue tlat twk nT edue elat ewk nE len cnt tin sp pe slp late srv hv av bd sh sc lt rule now st asl idl idn par div dee w) H := hP.sub [1, 2, 3, 4, 5, 6, 7, 8, 9, 10, 11, 12, 13, 14, 15, 16, 17, 18, 19, 20, 21, 22, 23, 24, 25, 26, 27, 28, 29, 0] (z_fm rfl)
                have hD : va_D A (wPW cI cJ cZ q pw co la vo cpar fr cdee use runx_5 nC tdue tlat twk nT edue elat ewk nE len cnt tin sp pe slp late srv hv av bd sh sc lt rule now st asl idl idn par div dee w) := hD.sub [1, 2, 3, 4, 5, 6, 7, 8, 9, 10, 11, 12, 13, 14, 15, 16, 17, 18, 19, 20, 21, 22, 23, 24, 25, 26, 27, 28, 29, 0] (by decide) rfl
                refine lv_istore (lv' := [(16, .int (iI (-83))), (15, .int (iI sl)), (14, .int (iI bb)), (13, .int (iI (llZ tdue tlat (-1) 1000000000 nT))), (12, .int (iI nT)), (11, .int (iI wk1)), (10, .int (iI (now + t1))), (8, .long (lI (alZ pw co la vo use nC tdue tlat nT tin sp slp late srv av bd sh now st par dee))), (6, .long (lI sp)), (5, .int (iI st)), (4, .int (iI (smZ y 8))), (0, .ref (q 0)), (1, .ref (q 29)), (2, .int (iI y)), (3, .int (iI od))]) hx hb dL_times_191 hl (by decide) rfl (fun ls hl => ?_)
                refine lv_iload hx hb dL_times_193 (lv_at hl 2 rfl) ?_
                refine zi_fne (tgt := 218) hx hb (by omega) dL_times_195 (by decide) (fun c_123 => ?_) (fun c_123 => ?_)
                · skip
                  exact absurd c_123 (by omega)
                · skip
                  refine lv_iload hx hb dL_times_198 (lv_at hl 1 rfl) ?_
                  refine zi_flt (tgt := 218) hx hb (by omega) dL_times_200 (by decide) (fun c_124 => ?_) (fun c_124 => ?_)
                  · skip
                    exact absurd c_124 (by omega)
                  · skip
                    refine lv_iload hx hb dL_times_203 (lv_at hl 1 rfl) ?_
                    refine lv_sipush (v := iI 500) hx hb dL_times_205 (by decide) ?_
                    refine zi_cgt (tgt := 218) hx hb (by omega) (by decide) dL_times_208 (by decide) (fun c_125 => ?_) (fun c_125 => ?_)
                    · skip
                      exact absurd c_125 (by omega)
                    · skip
                      refine lv_iload hx hb dL_times_211 (lv_at hl 4 rfl) ?_
                      refine lv_bipush (v := iI 12) hx hb dL_times_213 (by decide) ?_
                      refine zi_cne (tgt := 264) hx hb (by omega) (by decide) dL_times_215 (by decide) (fun c_126 => ?_) (fun c_126 => ?_)
                      · skip
                        exact absurd c_126 (by omega)
                      · skip
                        refine lv_iload hx hb dL_times_218 (lv_at hl 0 rfl) ?_
                        refine lv_iload hx hb dL_times_220 (lv_at hl 2 rfl) ?_
                        refine zi_fne (tgt := 238) hx hb (by omega) dL_times_222 (by decide) (fun c_127 => ?_) (fun c_127 => ?_)
                        · skip
                          exact absurd c_127 (by omega)
                        · skip
                          refine lv_iload hx hb dL_times_225 (lv_at hl 1 rfl) ?_
                          refine zi_flt (tgt := 238) hx hb (by omega) dL_times_227 (by decide) (fun c_128 => ?_) (fun c_128 => ?_)
                          · skip
                            exact absurd c_128 (by omega)
                          · skip
                            refine lv_iload hx hb dL_times_230 (lv_at hl 1 rfl) ?_
                            refine lv_sipush (v := iI 500) hx hb dL_times_232 (by decide) ?_
                            refine zi_cle (tgt := 243) hx hb (by omega) (by decide) dL_times_235 (by decide) (fun c_129 => ?_) (fun c_129 => ?_)
                            · skip
                              refine lv_bipush (v := iI (-83)) hx hb dL_times_243 (by decide) ?_
                              refine zi_cne (tgt := 262) hx hb (by decide) (by decide) dL_times_245 (by decide) (fun c_130 => ?_) (fun c_130 => ?_)
                              · skip
                                exact absurd c_130 (by decide)
                              · skip
                                refine lv_aload_n hx hb dL_times_248 rfl (lv_at hl 11 rfl) ?_
                                refine zc_l (va_runS (As := [.ref (q 0)]) (rest := []) ⟨hx, hb, hml, hown, hts⟩ (kL_all l dC dI cI cJ cZ q pw co la vo cpar fr cdee use runx_5 nC tdue tlat twk nT edue elat ewk nE len cnt tin sp pe slp late srv hv av bd sh sc lt rule now st asl idl idn par div dee (by first | assumption | omega | exact b2i_01 _ | exact shr_r _ _) (by first | assumption | omega | exact b2i_01 _ | exact shr_r _ _) (by first | assumption | omega | exact b2i_01 _ | exact shr_r _ _) (by first | assumption | omega | exact b2i_01 _ | exact shr_r _ _) (by first | assumption | omega | exact b2i_01 _ | exact shr_r _ _) (by first | assumption | omega | exact b2i_01 _ | exact shr_r _ _) (by first | assumption | omega | exact b2i_01 _ | exact shr_r _ _) (by first | assumption | omega | exact b2i_01 _ | exact shr_r _ _) (by first | assumption | omega | exact b2i_01 _ | exact shr_r _ _) (by first | assumption | omega | exact b2i_01 _ | exact shr_r _ _) (by first | assumption | omega | exact b2i_01 _ | exact shr_r _ _) (by first | assumption | omega | exact b2i_01 _ | exact shr_r _ _) (by first | assumption | omega | exact b2i_01 _ | exact shr_r _ _) (by first | assumption | omega | exact b2i_01 _ | exact shr_r _ _) (by first | assumption | omega | exact b2i_01 _ | exact shr_r _ _) (by first | assumption | omega | exact b2i_01 _ | exact shr_r _ _) (by first | assumption | omega | exact b2i_01 _ | exact shr_r _ _) (by first | assumption | omega | exact b2i_01 _ | exact shr_r _ _) (by first | assumption | omega | exact b2i_01 _ | exact shr_r _ _) (by first | assumption | omega | exact b2i_01 _ | exact shr_r _ _) (by first | assumption | omega | exact b2i_01 _ | exact shr_r _ _) H.size) (va_cwS 1 hts gL_times_L_all rfl rfl rfl (by decide +kernel) ⟨Nat.le_of_ble_eq_true rfl, Nat.le_of_ble_eq_true rfl⟩) (zpS hK hP hD [0, 1, 2, 3, 4, 5, 6, 7, 8, 9, 10, 11, 12, 13, 14, 15, 16, 17, 18, 19, 20, 21, 22, 23, 24, 25, 26, 27, 28] rfl rfl) rfl rfl hl.1 rfl (lv_room (Nat.le_of_ble_eq_true rfl)) dL_times_249 ⟨Nat.le_of_ble_eq_true rfl, Nat.le_of_ble_eq_true rfl⟩) hP hD hS hA [0, 1, 2, 3, 4, 5, 6, 7, 8, 9, 10, 11, 12, 13, 14, 15, 16, 17, 18, 19, 20, 21, 22, 23, 24, 25, 26, 27, 28] [29] rfl rfl rfl (by decide) (fun v_133 u_132 H locs r_131 hP hD hS => ?_)
                                obtain ⟨runx_134, rfl⟩ : ∃ z, z = u_132 := ⟨_, rfl⟩
                                obtain ⟨v_135, r_131⟩ := r_131
                                refine ze_l v_135 ?_
                                have r_131 : tfZ runx_134 := r_131
                                have hP : va_P (dC, dI) vwCl (wPW cI cJ cZ q pw co la vo cpar fr cdee use runx_134 nC tdue tlat twk nT edue elat ewk nE len cnt tin sp pe slp late srv hv av bd sh sc lt rule now st asl idl idn par div dee w) H := hP.sub [1, 2, 3, 4, 5, 6, 7, 8, 9, 10, 11, 12, 13, 14, 15, 16, 17, 18, 19, 20, 21, 22, 23, 24, 25, 26, 27, 28, 29, 0] (z_fm rfl)
                                have hD : va_D A (wPW cI cJ cZ q pw co la vo cpar fr cdee use runx_134 nC tdue tlat twk nT edue elat ewk nE len cnt tin sp pe slp late srv hv av bd sh sc lt rule now st asl idl idn par div dee w) := hD.sub [1, 2, 3, 4, 5, 6, 7, 8, 9, 10, 11, 12, 13, 14, 15, 16, 17, 18, 19, 20, 21, 22, 23, 24, 25, 26, 27, 28, 29, 0] (by decide) rfl
                                have hrun8 := r_131
                                refine lv_lload hx hb dL_times_252 (lv_at hl 7 rfl) ?_
                                refine zl_sameN (tgt := 262) hx hb (by rfl) dL_times_254 dL_times_255 (by decide) ?_
                                refine lv_iconst (v := iI 1) hx hb dL_times_258 rfl ?_
                                refine lv_goto (tgt := 263) hx hb dL_times_259 (by decide) ?_
                                subst hQ
                                refine W.widen (k := 1) (n := 6) (by decide) (by decide) ?_
                                exact zret_z (W1 := fun u9 : (Int → Int) × (Int → Int) × (Int → Int) × Int × (Int → Int) × (Int → Int) × (Int → Int) × Int × (Int → Int) × Int × Int × Int × (Int → Int) × Int × (Int → Int) × Int × (Int → Int) => wPW cI cJ cZ q pw co la vo cpar fr cdee use (u9.2.2.2.2.2.2.2.2.1) nC (u9.1) (u9.2.1) (u9.2.2.1) (u9.2.2.2.1) (u9.2.2.2.2.1) (u9.2.2.2.2.2.1) (u9.2.2.2.2.2.2.1) (u9.2.2.2.2.2.2.2.1) (u9.2.2.2.2.2.2.2.2.2.2.2.2.2.2.1) (u9.2.2.2.2.2.2.2.2.2.2.2.2.2.2.2.1) tin (u9.2.2.2.2.2.2.2.2.2.2.1) (u9.2.2.2.2.2.2.2.2.2.2.2.1) slp late srv (u9.2.2.2.2.2.2.2.2.2.2.2.2.2.2.2.2) av bd sh sc lt rule now (u9.2.2.2.2.2.2.2.2.2.1) asl (u9.2.2.2.2.2.2.2.2.2.2.2.2.1) (u9.2.2.2.2.2.2.2.2.2.2.2.2.2.1) par div dee w) (tdue, tlat, twk, nT, edue, elat, ewk, nE, runx_134, st, sp, pe, idl, idn, len, cnt, hv) hx hb hr hP hD hS hlocks dL_times_263 (by first | decide | omega) (by exact ⟨rfl, lj_mono (K2 := K + 200) (lj_run hI hrun8) (by omega)⟩)
                            · skip
                              exact absurd c_129 (by omega)
            · skip
              refine zc_i (vx_runSW (As := [.ref (q 0), .int (iI 5), .int (iI (now + t1)), .int (iI sl), .int (iI wk1)]) (rest := []) ⟨hx, hb, hml, hown, hts⟩ (kL_sets_bad5a l dC dI cI cJ cZ q pw co la vo cpar fr cdee use runx_5 nC tdue tlat twk nT edue elat ewk nE len cnt tin sp pe slp late srv hv av bd sh sc lt rule now st asl idl idn par div dee (now + t1) sl wk1 (by first | assumption | omega | exact b2i_01 _ | exact shr_r _ _) (by first | assumption | omega | exact b2i_01 _ | exact shr_r _ _) (by first | assumption | omega | exact b2i_01 _ | exact shr_r _ _) (by first | assumption | omega | exact b2i_01 _ | exact shr_r _ _) (by first | assumption | omega | exact b2i_01 _ | exact shr_r _ _) (by first | assumption | omega | exact b2i_01 _ | exact shr_r _ _) (by first | assumption | omega | exact b2i_01 _ | exact shr_r _ _) (by first | assumption | omega | exact b2i_01 _ | exact shr_r _ _) (by first | assumption | omega | exact b2i_01 _ | exact shr_r _ _) (by first | assumption | omega | exact b2i_01 _ | exact shr_r _ _) (by first | assumption | omega | exact b2i_01 _ | exact shr_r _ _) (by first | assumption | omega | exact b2i_01 _ | exact shr_r _ _) htr H.size) (vx_cwSW 5 hts gL_times_L_sets rfl rfl rfl (by decide +kernel) ⟨Nat.le_of_ble_eq_true rfl, Nat.le_of_ble_eq_true rfl⟩) (zyS hY hX hS hA hK hP hD [0, 1, 2, 3, 4, 5, 6, 7, 8, 9, 10, 11, 12, 13, 14, 15, 16, 17, 18, 19, 20, 21, 22, 23, 24, 25, 26, 27, 28] rfl rfl) rfl rfl hl.1 rfl (lv_room (Nat.le_of_ble_eq_true rfl)) dL_times_188 ⟨Nat.le_of_ble_eq_true rfl, Nat.le_of_ble_eq_true rfl⟩) hP hD hS hA [0, 1, 2, 3, 4, 5, 6, 7, 8, 9, 10, 11, 12, 13, 14, 15, 16, 17, 18, 19, 20, 21, 22, 23, 24, 25, 26, 27, 28] [29] rfl rfl rfl (by decide) (fun v_138 u_137 H locs r_136 hP hD hS => ?_)
              refine ze_i r_136 ?_
              have hP : va_P (dC, dI) vwCl (wPW cI cJ cZ q pw co la vo cpar fr cdee use runx_5 nC tdue tlat twk nT edue elat ewk nE len cnt tin sp pe slp late srv hv av bd sh sc lt rule now st asl idl idn par div dee w) H := hP.sub [1, 2, 3, 4, 5, 6, 7, 8, 9, 10, 11, 12, 13, 14, 15, 16, 17, 18, 19, 20, 21, 22, 23, 24, 25, 26, 27, 28, 29, 0] (z_fm rfl)
              have hD : va_D A (wPW cI cJ cZ q pw co la vo cpar fr cdee use runx_5 nC tdue tlat twk nT edue elat ewk nE len cnt tin sp pe slp late srv hv av bd sh sc lt rule now st asl idl idn par div dee w) := hD.sub [1, 2, 3, 4, 5, 6, 7, 8, 9, 10, 11, 12, 13, 14, 15, 16, 17, 18, 19, 20, 21, 22, 23, 24, 25, 26, 27, 28, 29, 0] (by decide) rfl
              refine lv_istore (lv' := [(16, .int (iI (-82))), (15, .int (iI sl)), (14, .int (iI bb)), (13, .int (iI (llZ tdue tlat (-1) 1000000000 nT))), (12, .int (iI nT)), (11, .int (iI wk1)), (10, .int (iI (now + t1))), (8, .long (lI (alZ pw co la vo use nC tdue tlat nT tin sp slp late srv av bd sh now st par dee))), (6, .long (lI sp)), (5, .int (iI st)), (4, .int (iI (smZ y 8))), (0, .ref (q 0)), (1, .ref (q 29)), (2, .int (iI y)), (3, .int (iI od))]) hx hb dL_times_191 hl (by decide) rfl (fun ls hl => ?_)
              refine lv_iload hx hb dL_times_193 (lv_at hl 2 rfl) ?_
              refine zi_fne (tgt := 218) hx hb (by omega) dL_times_195 (by decide) (fun c_139 => ?_) (fun c_139 => ?_)
              · skip
                refine lv_iload hx hb dL_times_218 (lv_at hl 0 rfl) ?_
                refine lv_iload hx hb dL_times_220 (lv_at hl 2 rfl) ?_
                refine zi_fne (tgt := 238) hx hb (by omega) dL_times_222 (by decide) (fun c_140 => ?_) (fun c_140 => ?_)
                · skip
                  refine lv_bipush (v := iI (-82)) hx hb dL_times_238 (by decide) ?_
                  refine lv_goto (tgt := 245) hx hb dL_times_240 (by decide) ?_
                  refine zi_cne (tgt := 262) hx hb (by decide) (by decide) dL_times_245 (by decide) (fun c_141 => ?_) (fun c_141 => ?_)
                  · skip
                    exact absurd c_141 (by decide)
                  · skip
                    refine lv_aload_n hx hb dL_times_248 rfl (lv_at hl 11 rfl) ?_
                    refine zc_l (va_runS (As := [.ref (q 0)]) (rest := []) ⟨hx, hb, hml, hown, hts⟩ (kL_all l dC dI cI cJ cZ q pw co la vo cpar fr cdee use runx_5 nC tdue tlat twk nT edue elat ewk nE len cnt tin sp pe slp late srv hv av bd sh sc lt rule now st asl idl idn par div dee (by first | assumption | omega | exact b2i_01 _ | exact shr_r _ _) (by first | assumption | omega | exact b2i_01 _ | exact shr_r _ _) (by first | assumption | omega | exact b2i_01 _ | exact shr_r _ _) (by first | assumption | omega | exact b2i_01 _ | exact shr_r _ _) (by first | assumption | omega | exact b2i_01 _ | exact shr_r _ _) (by first | assumption | omega | exact b2i_01 _ | exact shr_r _ _) (by first | assumption | omega | exact b2i_01 _ | exact shr_r _ _) (by first | assumption | omega | exact b2i_01 _ | exact shr_r _ _) (by first | assumption | omega | exact b2i_01 _ | exact shr_r _ _) (by first | assumption | omega | exact b2i_01 _ | exact shr_r _ _) (by first | assumption | omega | exact b2i_01 _ | exact shr_r _ _) (by first | assumption | omega | exact b2i_01 _ | exact shr_r _ _) (by first | assumption | omega | exact b2i_01 _ | exact shr_r _ _) (by first | assumption | omega | exact b2i_01 _ | exact shr_r _ _) (by first | assumption | omega | exact b2i_01 _ | exact shr_r _ _) (by first | assumption | omega | exact b2i_01 _ | exact shr_r _ _) (by first | assumption | omega | exact b2i_01 _ | exact shr_r _ _) (by first | assumption | omega | exact b2i_01 _ | exact shr_r _ _) (by first | assumption | omega | exact b2i_01 _ | exact shr_r _ _) (by first | assumption | omega | exact b2i_01 _ | exact shr_r _ _) (by first | assumption | omega | exact b2i_01 _ | exact shr_r _ _) H.size) (va_cwS 1 hts gL_times_L_all rfl rfl rfl (by decide +kernel) ⟨Nat.le_of_ble_eq_true rfl, Nat.le_of_ble_eq_true rfl⟩) (zpS hK hP hD [0, 1, 2, 3, 4, 5, 6, 7, 8, 9, 10, 11, 12, 13, 14, 15, 16, 17, 18, 19, 20, 21, 22, 23, 24, 25, 26, 27, 28] rfl rfl) rfl rfl hl.1 rfl (lv_room (Nat.le_of_ble_eq_true rfl)) dL_times_249 ⟨Nat.le_of_ble_eq_true rfl, Nat.le_of_ble_eq_true rfl⟩) hP hD hS hA [0, 1, 2, 3, 4, 5, 6, 7, 8, 9, 10, 11, 12, 13, 14, 15, 16, 17, 18, 19, 20, 21, 22, 23, 24, 25, 26, 27, 28] [29] rfl rfl rfl (by decide) (fun v_144 u_143 H locs r_142 hP hD hS => ?_)
                    obtain ⟨runx_145, rfl⟩ : ∃ z, z = u_143 := ⟨_, rfl⟩
                    obtain ⟨v_146, r_142⟩ := r_142
                    refine ze_l v_146 ?_
                    have r_142 : tfZ runx_145 := r_142
                    have hP : va_P (dC, dI) vwCl (wPW cI cJ cZ q pw co la vo cpar fr cdee use runx_145 nC tdue tlat twk nT edue elat ewk nE len cnt tin sp pe slp late srv hv av bd sh sc lt rule now st asl idl idn par div dee w) H := hP.sub [1, 2, 3, 4, 5, 6, 7, 8, 9, 10, 11, 12, 13, 14, 15, 16, 17, 18, 19, 20, 21, 22, 23, 24, 25, 26, 27, 28, 29, 0] (z_fm rfl)
                    have hD : va_D A (wPW cI cJ cZ q pw co la vo cpar fr cdee use runx_145 nC tdue tlat twk nT edue elat ewk nE len cnt tin sp pe slp late srv hv av bd sh sc lt rule now st asl idl idn par div dee w) := hD.sub [1, 2, 3, 4, 5, 6, 7, 8, 9, 10, 11, 12, 13, 14, 15, 16, 17, 18, 19, 20, 21, 22, 23, 24, 25, 26, 27, 28, 29, 0] (by decide) rfl
                    have hrun8 := r_142
                    refine lv_lload hx hb dL_times_252 (lv_at hl 7 rfl) ?_
                    refine zl_sameN (tgt := 262) hx hb (by rfl) dL_times_254 dL_times_255 (by decide) ?_
                    refine lv_iconst (v := iI 1) hx hb dL_times_258 rfl ?_
                    refine lv_goto (tgt := 263) hx hb dL_times_259 (by decide) ?_
                    subst hQ
                    refine W.widen (k := 1) (n := 6) (by decide) (by decide) ?_
                    exact zret_z (W1 := fun u9 : (Int → Int) × (Int → Int) × (Int → Int) × Int × (Int → Int) × (Int → Int) × (Int → Int) × Int × (Int → Int) × Int × Int × Int × (Int → Int) × Int × (Int → Int) × Int × (Int → Int) => wPW cI cJ cZ q pw co la vo cpar fr cdee use (u9.2.2.2.2.2.2.2.2.1) nC (u9.1) (u9.2.1) (u9.2.2.1) (u9.2.2.2.1) (u9.2.2.2.2.1) (u9.2.2.2.2.2.1) (u9.2.2.2.2.2.2.1) (u9.2.2.2.2.2.2.2.1) (u9.2.2.2.2.2.2.2.2.2.2.2.2.2.2.1) (u9.2.2.2.2.2.2.2.2.2.2.2.2.2.2.2.1) tin (u9.2.2.2.2.2.2.2.2.2.2.1) (u9.2.2.2.2.2.2.2.2.2.2.2.1) slp late srv (u9.2.2.2.2.2.2.2.2.2.2.2.2.2.2.2.2) av bd sh sc lt rule now (u9.2.2.2.2.2.2.2.2.2.1) asl (u9.2.2.2.2.2.2.2.2.2.2.2.2.1) (u9.2.2.2.2.2.2.2.2.2.2.2.2.2.1) par div dee w) (tdue, tlat, twk, nT, edue, elat, ewk, nE, runx_145, st, sp, pe, idl, idn, len, cnt, hv) hx hb hr hP hD hS hlocks dL_times_263 (by first | decide | omega) (by exact ⟨rfl, lj_mono (K2 := K + 200) (lj_run hI hrun8) (by omega)⟩)
                · skip
                  refine lv_iload hx hb dL_times_225 (lv_at hl 1 rfl) ?_
                  refine zi_flt (tgt := 238) hx hb (by omega) dL_times_227 (by decide) (fun c_147 => ?_) (fun c_147 => ?_)
                  · skip
                    refine lv_bipush (v := iI (-82)) hx hb dL_times_238 (by decide) ?_
                    refine lv_goto (tgt := 245) hx hb dL_times_240 (by decide) ?_
                    refine zi_cne (tgt := 262) hx hb (by decide) (by decide) dL_times_245 (by decide) (fun c_148 => ?_) (fun c_148 => ?_)
                    · skip
                      exact absurd c_148 (by decide)
                    · skip
                      refine lv_aload_n hx hb dL_times_248 rfl (lv_at hl 11 rfl) ?_
                      refine zc_l (va_runS (As := [.ref (q 0)]) (rest := []) ⟨hx, hb, hml, hown, hts⟩ (kL_all l dC dI cI cJ cZ q pw co la vo cpar fr cdee use runx_5 nC tdue tlat twk nT edue elat ewk nE len cnt tin sp pe slp late srv hv av bd sh sc lt rule now st asl idl idn par div dee (by first | assumption | omega | exact b2i_01 _ | exact shr_r _ _) (by first | assumption | omega | exact b2i_01 _ | exact shr_r _ _) (by first | assumption | omega | exact b2i_01 _ | exact shr_r _ _) (by first | assumption | omega | exact b2i_01 _ | exact shr_r _ _) (by first | assumption | omega | exact b2i_01 _ | exact shr_r _ _) (by first | assumption | omega | exact b2i_01 _ | exact shr_r _ _) (by first | assumption | omega | exact b2i_01 _ | exact shr_r _ _) (by first | assumption | omega | exact b2i_01 _ | exact shr_r _ _) (by first | assumption | omega | exact b2i_01 _ | exact shr_r _ _) (by first | assumption | omega | exact b2i_01 _ | exact shr_r _ _) (by first | assumption | omega | exact b2i_01 _ | exact shr_r _ _) (by first | assumption | omega | exact b2i_01 _ | exact shr_r _ _) (by first | assumption | omega | exact b2i_01 _ | exact shr_r _ _) (by first | assumption | omega | exact b2i_01 _ | exact shr_r _ _) (by first | assumption | omega | exact b2i_01 _ | exact shr_r _ _) (by first | assumption | omega | exact b2i_01 _ | exact shr_r _ _) (by first | assumption | omega | exact b2i_01 _ | exact shr_r _ _) (by first | assumption | omega | exact b2i_01 _ | exact shr_r _ _) (by first | assumption | omega | exact b2i_01 _ | exact shr_r _ _) (by first | assumption | omega | exact b2i_01 _ | exact shr_r _ _) (by first | assumption | omega | exact b2i_01 _ | exact shr_r _ _) H.size) (va_cwS 1 hts gL_times_L_all rfl rfl rfl (by decide +kernel) ⟨Nat.le_of_ble_eq_true rfl, Nat.le_of_ble_eq_true rfl⟩) (zpS hK hP hD [0, 1, 2, 3, 4, 5, 6, 7, 8, 9, 10, 11, 12, 13, 14, 15, 16, 17, 18, 19, 20, 21, 22, 23, 24, 25, 26, 27, 28] rfl rfl) rfl rfl hl.1 rfl (lv_room (Nat.le_of_ble_eq_true rfl)) dL_times_249 ⟨Nat.le_of_ble_eq_true rfl, Nat.le_of_ble_eq_true rfl⟩) hP hD hS hA [0, 1, 2, 3, 4, 5, 6, 7, 8, 9, 10, 11, 12, 13, 14, 15, 16, 17, 18, 19, 20, 21, 22, 23, 24, 25, 26, 27, 28] [29] rfl rfl rfl (by decide) (fun v_151 u_150 H locs r_149 hP hD hS => ?_)
                      obtain ⟨runx_152, rfl⟩ : ∃ z, z = u_150 := ⟨_, rfl⟩
                      obtain ⟨v_153, r_149⟩ := r_149
                      refine ze_l v_153 ?_
                      have r_149 : tfZ runx_152 := r_149
                      have hP : va_P (dC, dI) vwCl (wPW cI cJ cZ q pw co la vo cpar fr cdee use runx_152 nC tdue tlat twk nT edue elat ewk nE len cnt tin sp pe slp late srv hv av bd sh sc lt rule now st asl idl idn par div dee w) H := hP.sub [1, 2, 3, 4, 5, 6, 7, 8, 9, 10, 11, 12, 13, 14, 15, 16, 17, 18, 19, 20, 21, 22, 23, 24, 25, 26, 27, 28, 29, 0] (z_fm rfl)
                      have hD : va_D A (wPW cI cJ cZ q pw co la vo cpar fr cdee use runx_152 nC tdue tlat twk nT edue elat ewk nE len cnt tin sp pe slp late srv hv av bd sh sc lt rule now st asl idl idn par div dee w) := hD.sub [1, 2, 3, 4, 5, 6, 7, 8, 9, 10, 11, 12, 13, 14, 15, 16, 17, 18, 19, 20, 21, 22, 23, 24, 25, 26, 27, 28, 29, 0] (by decide) rfl
                      have hrun8 := r_149
                      refine lv_lload hx hb dL_times_252 (lv_at hl 7 rfl) ?_
                      refine zl_sameN (tgt := 262) hx hb (by rfl) dL_times_254 dL_times_255 (by decide) ?_
                      refine lv_iconst (v := iI 1) hx hb dL_times_258 rfl ?_
                      refine lv_goto (tgt := 263) hx hb dL_times_259 (by decide) ?_
                      subst hQ
                      refine W.widen (k := 1) (n := 6) (by decide) (by decide) ?_
                      exact zret_z (W1 := fun u9 : (Int → Int) × (Int → Int) × (Int → Int) × Int × (Int → Int) × (Int → Int) × (Int → Int) × Int × (Int → Int) × Int × Int × Int × (Int → Int) × Int × (Int → Int) × Int × (Int → Int) => wPW cI cJ cZ q pw co la vo cpar fr cdee use (u9.2.2.2.2.2.2.2.2.1) nC (u9.1) (u9.2.1) (u9.2.2.1) (u9.2.2.2.1) (u9.2.2.2.2.1) (u9.2.2.2.2.2.1) (u9.2.2.2.2.2.2.1) (u9.2.2.2.2.2.2.2.1) (u9.2.2.2.2.2.2.2.2.2.2.2.2.2.2.1) (u9.2.2.2.2.2.2.2.2.2.2.2.2.2.2.2.1) tin (u9.2.2.2.2.2.2.2.2.2.2.1) (u9.2.2.2.2.2.2.2.2.2.2.2.1) slp late srv (u9.2.2.2.2.2.2.2.2.2.2.2.2.2.2.2.2) av bd sh sc lt rule now (u9.2.2.2.2.2.2.2.2.2.1) asl (u9.2.2.2.2.2.2.2.2.2.2.2.2.1) (u9.2.2.2.2.2.2.2.2.2.2.2.2.2.1) par div dee w) (tdue, tlat, twk, nT, edue, elat, ewk, nE, runx_152, st, sp, pe, idl, idn, len, cnt, hv) hx hb hr hP hD hS hlocks dL_times_263 (by first | decide | omega) (by exact ⟨rfl, lj_mono (K2 := K + 200) (lj_run hI hrun8) (by omega)⟩)
                  · skip
                    refine lv_iload hx hb dL_times_230 (lv_at hl 1 rfl) ?_
                    refine lv_sipush (v := iI 500) hx hb dL_times_232 (by decide) ?_
                    refine zi_cle (tgt := 243) hx hb (by omega) (by decide) dL_times_235 (by decide) (fun c_154 => ?_) (fun c_154 => ?_)
                    · skip
                      exact absurd c_154 (by omega)
                    · skip
                      refine lv_bipush (v := iI (-82)) hx hb dL_times_238 (by decide) ?_
                      refine lv_goto (tgt := 245) hx hb dL_times_240 (by decide) ?_
                      refine zi_cne (tgt := 262) hx hb (by decide) (by decide) dL_times_245 (by decide) (fun c_155 => ?_) (fun c_155 => ?_)
                      · skip
                        exact absurd c_155 (by decide)
                      · skip
                        refine lv_aload_n hx hb dL_times_248 rfl (lv_at hl 11 rfl) ?_
                        refine zc_l (va_runS (As := [.ref (q 0)]) (rest := []) ⟨hx, hb, hml, hown, hts⟩ (kL_all l dC dI cI cJ cZ q pw co la vo cpar fr cdee use runx_5 nC tdue tlat twk nT edue elat ewk nE len cnt tin sp pe slp late srv hv av bd sh sc lt rule now st asl idl idn par div dee (by first | assumption | omega | exact b2i_01 _ | exact shr_r _ _) (by first | assumption | omega | exact b2i_01 _ | exact shr_r _ _) (by first | assumption | omega | exact b2i_01 _ | exact shr_r _ _) (by first | assumption | omega | exact b2i_01 _ | exact shr_r _ _) (by first | assumption | omega | exact b2i_01 _ | exact shr_r _ _) (by first | assumption | omega | exact b2i_01 _ | exact shr_r _ _) (by first | assumption | omega | exact b2i_01 _ | exact shr_r _ _) (by first | assumption | omega | exact b2i_01 _ | exact shr_r _ _) (by first | assumption | omega | exact b2i_01 _ | exact shr_r _ _) (by first | assumption | omega | exact b2i_01 _ | exact shr_r _ _) (by first | assumption | omega | exact b2i_01 _ | exact shr_r _ _) (by first | assumption | omega | exact b2i_01 _ | exact shr_r _ _) (by first | assumption | omega | exact b2i_01 _ | exact shr_r _ _) (by first | assumption | omega | exact b2i_01 _ | exact shr_r _ _) (by first | assumption | omega | exact b2i_01 _ | exact shr_r _ _) (by first | assumption | omega | exact b2i_01 _ | exact shr_r _ _) (by first | assumption | omega | exact b2i_01 _ | exact shr_r _ _) (by first | assumption | omega | exact b2i_01 _ | exact shr_r _ _) (by first | assumption | omega | exact b2i_01 _ | exact shr_r _ _) (by first | assumption | omega | exact b2i_01 _ | exact shr_r _ _) (by first | assumption | omega | exact b2i_01 _ | exact shr_r _ _) H.size) (va_cwS 1 hts gL_times_L_all rfl rfl rfl (by decide +kernel) ⟨Nat.le_of_ble_eq_true rfl, Nat.le_of_ble_eq_true rfl⟩) (zpS hK hP hD [0, 1, 2, 3, 4, 5, 6, 7, 8, 9, 10, 11, 12, 13, 14, 15, 16, 17, 18, 19, 20, 21, 22, 23, 24, 25, 26, 27, 28] rfl rfl) rfl rfl hl.1 rfl (lv_room (Nat.le_of_ble_eq_true rfl)) dL_times_249 ⟨Nat.le_of_ble_eq_true rfl, Nat.le_of_ble_eq_true rfl⟩) hP hD hS hA [0, 1, 2, 3, 4, 5, 6, 7, 8, 9, 10, 11, 12, 13, 14, 15, 16, 17, 18, 19, 20, 21, 22, 23, 24, 25, 26, 27, 28] [29] rfl rfl rfl (by decide) (fun v_158 u_157 H locs r_156 hP hD hS => ?_)
                        obtain ⟨runx_159, rfl⟩ : ∃ z, z = u_157 := ⟨_, rfl⟩
                        obtain ⟨v_160, r_156⟩ := r_156
                        refine ze_l v_160 ?_
                        have r_156 : tfZ runx_159 := r_156
                        have hP : va_P (dC, dI) vwCl (wPW cI cJ cZ q pw co la vo cpar fr cdee use runx_159 nC tdue tlat twk nT edue elat ewk nE len cnt tin sp pe slp late srv hv av bd sh sc lt rule now st asl idl idn par div dee w) H := hP.sub [1, 2, 3, 4, 5, 6, 7, 8, 9, 10, 11, 12, 13, 14, 15, 16, 17, 18, 19, 20, 21, 22, 23, 24, 25, 26, 27, 28, 29, 0] (z_fm rfl)
                        have hD : va_D A (wPW cI cJ cZ q pw co la vo cpar fr cdee use runx_159 nC tdue tlat twk nT edue elat ewk nE len cnt tin sp pe slp late srv hv av bd sh sc lt rule now st asl idl idn par div dee w) := hD.sub [1, 2, 3, 4, 5, 6, 7, 8, 9, 10, 11, 12, 13, 14, 15, 16, 17, 18, 19, 20, 21, 22, 23, 24, 25, 26, 27, 28, 29, 0] (by decide) rfl
                        have hrun8 := r_156
                        refine lv_lload hx hb dL_times_252 (lv_at hl 7 rfl) ?_
                        refine zl_sameN (tgt := 262) hx hb (by rfl) dL_times_254 dL_times_255 (by decide) ?_
                        refine lv_iconst (v := iI 1) hx hb dL_times_258 rfl ?_
                        refine lv_goto (tgt := 263) hx hb dL_times_259 (by decide) ?_
                        subst hQ
                        refine W.widen (k := 1) (n := 6) (by decide) (by decide) ?_
                        exact zret_z (W1 := fun u9 : (Int → Int) × (Int → Int) × (Int → Int) × Int × (Int → Int) × (Int → Int) × (Int → Int) × Int × (Int → Int) × Int × Int × Int × (Int → Int) × Int × (Int → Int) × Int × (Int → Int) => wPW cI cJ cZ q pw co la vo cpar fr cdee use (u9.2.2.2.2.2.2.2.2.1) nC (u9.1) (u9.2.1) (u9.2.2.1) (u9.2.2.2.1) (u9.2.2.2.2.1) (u9.2.2.2.2.2.1) (u9.2.2.2.2.2.2.1) (u9.2.2.2.2.2.2.2.1) (u9.2.2.2.2.2.2.2.2.2.2.2.2.2.2.1) (u9.2.2.2.2.2.2.2.2.2.2.2.2.2.2.2.1) tin (u9.2.2.2.2.2.2.2.2.2.2.1) (u9.2.2.2.2.2.2.2.2.2.2.2.1) slp late srv (u9.2.2.2.2.2.2.2.2.2.2.2.2.2.2.2.2) av bd sh sc lt rule now (u9.2.2.2.2.2.2.2.2.2.1) asl (u9.2.2.2.2.2.2.2.2.2.2.2.2.1) (u9.2.2.2.2.2.2.2.2.2.2.2.2.2.1) par div dee w) (tdue, tlat, twk, nT, edue, elat, ewk, nE, runx_159, st, sp, pe, idl, idn, len, cnt, hv) hx hb hr hP hD hS hlocks dL_times_263 (by first | decide | omega) (by exact ⟨rfl, lj_mono (K2 := K + 200) (lj_run hI hrun8) (by omega)⟩)
              · skip
                refine lv_iload hx hb dL_times_198 (lv_at hl 1 rfl) ?_
                refine zi_flt (tgt := 218) hx hb (by omega) dL_times_200 (by decide) (fun c_161 => ?_) (fun c_161 => ?_)
                · skip
                  refine lv_iload hx hb dL_times_218 (lv_at hl 0 rfl) ?_
                  refine lv_iload hx hb dL_times_220 (lv_at hl 2 rfl) ?_
                  refine zi_fne (tgt := 238) hx hb (by omega) dL_times_222 (by decide) (fun c_162 => ?_) (fun c_162 => ?_)
                  · skip
                    refine lv_bipush (v := iI (-82)) hx hb dL_times_238 (by decide) ?_
                    refine lv_goto (tgt := 245) hx hb dL_times_240 (by decide) ?_
                    refine zi_cne (tgt := 262) hx hb (by decide) (by decide) dL_times_245 (by decide) (fun c_163 => ?_) (fun c_163 => ?_)
                    · skip
                      exact absurd c_163 (by decide)
                    · skip
                      refine lv_aload_n hx hb dL_times_248 rfl (lv_at hl 11 rfl) ?_
                      refine zc_l (va_runS (As := [.ref (q 0)]) (rest := []) ⟨hx, hb, hml, hown, hts⟩ (kL_all l dC dI cI cJ cZ q pw co la vo cpar fr cdee use runx_5 nC tdue tlat twk nT edue elat ewk nE len cnt tin sp pe slp late srv hv av bd sh sc lt rule now st asl idl idn par div dee (by first | assumption | omega | exact b2i_01 _ | exact shr_r _ _) (by first | assumption | omega | exact b2i_01 _ | exact shr_r _ _) (by first | assumption | omega | exact b2i_01 _ | exact shr_r _ _) (by first | assumption | omega | exact b2i_01 _ | exact shr_r _ _) (by first | assumption | omega | exact b2i_01 _ | exact shr_r _ _) (by first | assumption | omega | exact b2i_01 _ | exact shr_r _ _) (by first | assumption | omega | exact b2i_01 _ | exact shr_r _ _) (by first | assumption | omega | exact b2i_01 _ | exact shr_r _ _) (by first | assumption | omega | exact b2i_01 _ | exact shr_r _ _) (by first | assumption | omega | exact b2i_01 _ | exact shr_r _ _) (by first | assumption | omega | exact b2i_01 _ | exact shr_r _ _) (by first | assumption | omega | exact b2i_01 _ | exact shr_r _ _) (by first | assumption | omega | exact b2i_01 _ | exact shr_r _ _) (by first | assumption | omega | exact b2i_01 _ | exact shr_r _ _) (by first | assumption | omega | exact b2i_01 _ | exact shr_r _ _) (by first | assumption | omega | exact b2i_01 _ | exact shr_r _ _) (by first | assumption | omega | exact b2i_01 _ | exact shr_r _ _) (by first | assumption | omega | exact b2i_01 _ | exact shr_r _ _) (by first | assumption | omega | exact b2i_01 _ | exact shr_r _ _) (by first | assumption | omega | exact b2i_01 _ | exact shr_r _ _) (by first | assumption | omega | exact b2i_01 _ | exact shr_r _ _) H.size) (va_cwS 1 hts gL_times_L_all rfl rfl rfl (by decide +kernel) ⟨Nat.le_of_ble_eq_true rfl, Nat.le_of_ble_eq_true rfl⟩) (zpS hK hP hD [0, 1, 2, 3, 4, 5, 6, 7, 8, 9, 10, 11, 12, 13, 14, 15, 16, 17, 18, 19, 20, 21, 22, 23, 24, 25, 26, 27, 28] rfl rfl) rfl rfl hl.1 rfl (lv_room (Nat.le_of_ble_eq_true rfl)) dL_times_249 ⟨Nat.le_of_ble_eq_true rfl, Nat.le_of_ble_eq_true rfl⟩) hP hD hS hA [0, 1, 2, 3, 4, 5, 6, 7, 8, 9, 10, 11, 12, 13, 14, 15, 16, 17, 18, 19, 20, 21, 22, 23, 24, 25, 26, 27, 28] [29] rfl rfl rfl (by decide) (fun v_166 u_165 H locs r_164 hP hD hS => ?_)
                      obtain ⟨runx_167, rfl⟩ : ∃ z, z = u_165 := ⟨_, rfl⟩
                      obtain ⟨v_168, r_164⟩ := r_164
                      refine ze_l v_168 ?_
                      have r_164 : tfZ runx_167 := r_164
                      have hP : va_P (dC, dI) vwCl (wPW cI cJ cZ q pw co la vo cpar fr cdee use runx_167 nC tdue tlat twk nT edue elat ewk nE len cnt tin sp pe slp late srv hv av bd sh sc lt rule now st asl idl idn par div dee w) H := hP.sub [1, 2, 3, 4, 5, 6, 7, 8, 9, 10, 11, 12, 13, 14, 15, 16, 17, 18, 19, 20, 21, 22, 23, 24, 25, 26, 27, 28, 29, 0] (z_fm rfl)
                      have hD : va_D A (wPW cI cJ cZ q pw co la vo cpar fr cdee use runx_167 nC tdue tlat twk nT edue elat ewk nE len cnt tin sp pe slp late srv hv av bd sh sc lt rule now st asl idl idn par div dee w) := hD.sub [1, 2, 3, 4, 5, 6, 7, 8, 9, 10, 11, 12, 13, 14, 15, 16, 17, 18, 19, 20, 21, 22, 23, 24, 25, 26, 27, 28, 29, 0] (by decide) rfl
                      have hrun8 := r_164
                      refine lv_lload hx hb dL_times_252 (lv_at hl 7 rfl) ?_
                      refine zl_sameN (tgt := 262) hx hb (by rfl) dL_times_254 dL_times_255 (by decide) ?_
                      refine lv_iconst (v := iI 1) hx hb dL_times_258 rfl ?_
                      refine lv_goto (tgt := 263) hx hb dL_times_259 (by decide) ?_
                      subst hQ
                      refine W.widen (k := 1) (n := 6) (by decide) (by decide) ?_
                      exact zret_z (W1 := fun u9 : (Int → Int) × (Int → Int) × (Int → Int) × Int × (Int → Int) × (Int → Int) × (Int → Int) × Int × (Int → Int) × Int × Int × Int × (Int → Int) × Int × (Int → Int) × Int × (Int → Int) => wPW cI cJ cZ q pw co la vo cpar fr cdee use (u9.2.2.2.2.2.2.2.2.1) nC (u9.1) (u9.2.1) (u9.2.2.1) (u9.2.2.2.1) (u9.2.2.2.2.1) (u9.2.2.2.2.2.1) (u9.2.2.2.2.2.2.1) (u9.2.2.2.2.2.2.2.1) (u9.2.2.2.2.2.2.2.2.2.2.2.2.2.2.1) (u9.2.2.2.2.2.2.2.2.2.2.2.2.2.2.2.1) tin (u9.2.2.2.2.2.2.2.2.2.2.1) (u9.2.2.2.2.2.2.2.2.2.2.2.1) slp late srv (u9.2.2.2.2.2.2.2.2.2.2.2.2.2.2.2.2) av bd sh sc lt rule now (u9.2.2.2.2.2.2.2.2.2.1) asl (u9.2.2.2.2.2.2.2.2.2.2.2.2.1) (u9.2.2.2.2.2.2.2.2.2.2.2.2.2.1) par div dee w) (tdue, tlat, twk, nT, edue, elat, ewk, nE, runx_167, st, sp, pe, idl, idn, len, cnt, hv) hx hb hr hP hD hS hlocks dL_times_263 (by first | decide | omega) (by exact ⟨rfl, lj_mono (K2 := K + 200) (lj_run hI hrun8) (by omega)⟩)
                  · skip
                    refine lv_iload hx hb dL_times_225 (lv_at hl 1 rfl) ?_
                    refine zi_flt (tgt := 238) hx hb (by omega) dL_times_227 (by decide) (fun c_169 => ?_) (fun c_169 => ?_)
                    · skip
                      refine lv_bipush (v := iI (-82)) hx hb dL_times_238 (by decide) ?_
                      refine lv_goto (tgt := 245) hx hb dL_times_240 (by decide) ?_
                      refine zi_cne (tgt := 262) hx hb (by decide) (by decide) dL_times_245 (by decide) (fun c_170 => ?_) (fun c_170 => ?_)
                      · skip
                        exact absurd c_170 (by decide)
                      · skip
                        refine lv_aload_n hx hb dL_times_248 rfl (lv_at hl 11 rfl) ?_
                        refine zc_l (va_runS (As := [.ref (q 0)]) (rest := []) ⟨hx, hb, hml, hown, hts⟩ (kL_all l dC dI cI cJ cZ q pw co la vo cpar fr cdee use runx_5 nC tdue tlat twk nT edue elat ewk nE len cnt tin sp pe slp late srv hv av bd sh sc lt rule now st asl idl idn par div dee (by first | assumption | omega | exact b2i_01 _ | exact shr_r _ _) (by first | assumption | omega | exact b2i_01 _ | exact shr_r _ _) (by first | assumption | omega | exact b2i_01 _ | exact shr_r _ _) (by first | assumption | omega | exact b2i_01 _ | exact shr_r _ _) (by first | assumption | omega | exact b2i_01 _ | exact shr_r _ _) (by first | assumption | omega | exact b2i_01 _ | exact shr_r _ _) (by first | assumption | omega | exact b2i_01 _ | exact shr_r _ _) (by first | assumption | omega | exact b2i_01 _ | exact shr_r _ _) (by first | assumption | omega | exact b2i_01 _ | exact shr_r _ _) (by first | assumption | omega | exact b2i_01 _ | exact shr_r _ _) (by first | assumption | omega | exact b2i_01 _ | exact shr_r _ _) (by first | assumption | omega | exact b2i_01 _ | exact shr_r _ _) (by first | assumption | omega | exact b2i_01 _ | exact shr_r _ _) (by first | assumption | omega | exact b2i_01 _ | exact shr_r _ _) (by first | assumption | omega | exact b2i_01 _ | exact shr_r _ _) (by first | assumption | omega | exact b2i_01 _ | exact shr_r _ _) (by first | assumption | omega | exact b2i_01 _ | exact shr_r _ _) (by first | assumption | omega | exact b2i_01 _ | exact shr_r _ _) (by first | assumption | omega | exact b2i_01 _ | exact shr_r _ _) (by first | assumption | omega | exact b2i_01 _ | exact shr_r _ _) (by first | assumption | omega | exact b2i_01 _ | exact shr_r _ _) H.size) (va_cwS 1 hts gL_times_L_all rfl rfl rfl (by decide +kernel) ⟨Nat.le_of_ble_eq_true rfl, Nat.le_of_ble_eq_true rfl⟩) (zpS hK hP hD [0, 1, 2, 3, 4, 5, 6, 7, 8, 9, 10, 11, 12, 13, 14, 15, 16, 17, 18, 19, 20, 21, 22, 23, 24, 25, 26, 27, 28] rfl rfl) rfl rfl hl.1 rfl (lv_room (Nat.le_of_ble_eq_true rfl)) dL_times_249 ⟨Nat.le_of_ble_eq_true rfl, Nat.le_of_ble_eq_true rfl⟩) hP hD hS hA [0, 1, 2, 3, 4, 5, 6, 7, 8, 9, 10, 11, 12, 13, 14, 15, 16, 17, 18, 19, 20, 21, 22, 23, 24, 25, 26, 27, 28] [29] rfl rfl rfl (by decide) (fun v_173 u_172 H locs r_171 hP hD hS => ?_)
                        obtain ⟨runx_174, rfl⟩ : ∃ z, z = u_172 := ⟨_, rfl⟩
                        obtain ⟨v_175, r_171⟩ := r_171
                        refine ze_l v_175 ?_
                        have r_171 : tfZ runx_174 := r_171
                        have hP : va_P (dC, dI) vwCl (wPW cI cJ cZ q pw co la vo cpar fr cdee use runx_174 nC tdue tlat twk nT edue elat ewk nE len cnt tin sp pe slp late srv hv av bd sh sc lt rule now st asl idl idn par div dee w) H := hP.sub [1, 2, 3, 4, 5, 6, 7, 8, 9, 10, 11, 12, 13, 14, 15, 16, 17, 18, 19, 20, 21, 22, 23, 24, 25, 26, 27, 28, 29, 0] (z_fm rfl)
                        have hD : va_D A (wPW cI cJ cZ q pw co la vo cpar fr cdee use runx_174 nC tdue tlat twk nT edue elat ewk nE len cnt tin sp pe slp late srv hv av bd sh sc lt rule now st asl idl idn par div dee w) := hD.sub [1, 2, 3, 4, 5, 6, 7, 8, 9, 10, 11, 12, 13, 14, 15, 16, 17, 18, 19, 20, 21, 22, 23, 24, 25, 26, 27, 28, 29, 0] (by decide) rfl
                        have hrun8 := r_171
                        refine lv_lload hx hb dL_times_252 (lv_at hl 7 rfl) ?_
                        refine zl_sameN (tgt := 262) hx hb (by rfl) dL_times_254 dL_times_255 (by decide) ?_
                        refine lv_iconst (v := iI 1) hx hb dL_times_258 rfl ?_
                        refine lv_goto (tgt := 263) hx hb dL_times_259 (by decide) ?_
                        subst hQ
                        refine W.widen (k := 1) (n := 6) (by decide) (by decide) ?_
                        exact zret_z (W1 := fun u9 : (Int → Int) × (Int → Int) × (Int → Int) × Int × (Int → Int) × (Int → Int) × (Int → Int) × Int × (Int → Int) × Int × Int × Int × (Int → Int) × Int × (Int → Int) × Int × (Int → Int) => wPW cI cJ cZ q pw co la vo cpar fr cdee use (u9.2.2.2.2.2.2.2.2.1) nC (u9.1) (u9.2.1) (u9.2.2.1) (u9.2.2.2.1) (u9.2.2.2.2.1) (u9.2.2.2.2.2.1) (u9.2.2.2.2.2.2.1) (u9.2.2.2.2.2.2.2.1) (u9.2.2.2.2.2.2.2.2.2.2.2.2.2.2.1) (u9.2.2.2.2.2.2.2.2.2.2.2.2.2.2.2.1) tin (u9.2.2.2.2.2.2.2.2.2.2.1) (u9.2.2.2.2.2.2.2.2.2.2.2.1) slp late srv (u9.2.2.2.2.2.2.2.2.2.2.2.2.2.2.2.2) av bd sh sc lt rule now (u9.2.2.2.2.2.2.2.2.2.1) asl (u9.2.2.2.2.2.2.2.2.2.2.2.2.1) (u9.2.2.2.2.2.2.2.2.2.2.2.2.2.1) par div dee w) (tdue, tlat, twk, nT, edue, elat, ewk, nE, runx_174, st, sp, pe, idl, idn, len, cnt, hv) hx hb hr hP hD hS hlocks dL_times_263 (by first | decide | omega) (by exact ⟨rfl, lj_mono (K2 := K + 200) (lj_run hI hrun8) (by omega)⟩)
                    · skip
                      refine lv_iload hx hb dL_times_230 (lv_at hl 1 rfl) ?_
                      refine lv_sipush (v := iI 500) hx hb dL_times_232 (by decide) ?_
                      refine zi_cle (tgt := 243) hx hb (by omega) (by decide) dL_times_235 (by decide) (fun c_176 => ?_) (fun c_176 => ?_)
                      · skip
                        exact absurd c_176 (by omega)
                      · skip
                        refine lv_bipush (v := iI (-82)) hx hb dL_times_238 (by decide) ?_
                        refine lv_goto (tgt := 245) hx hb dL_times_240 (by decide) ?_
                        refine zi_cne (tgt := 262) hx hb (by decide) (by decide) dL_times_245 (by decide) (fun c_177 => ?_) (fun c_177 => ?_)
                        · skip
                          exact absurd c_177 (by decide)
                        · skip
                          refine lv_aload_n hx hb dL_times_248 rfl (lv_at hl 11 rfl) ?_
                          refine zc_l (va_runS (As := [.ref (q 0)]) (rest := []) ⟨hx, hb, hml, hown, hts⟩ (kL_all l dC dI cI cJ cZ q pw co la vo cpar fr cdee use runx_5 nC tdue tlat twk nT edue elat ewk nE len cnt tin sp pe slp late srv hv av bd sh sc lt rule now st asl idl idn par div dee (by first | assumption | omega | exact b2i_01 _ | exact shr_r _ _) (by first | assumption | omega | exact b2i_01 _ | exact shr_r _ _) (by first | assumption | omega | exact b2i_01 _ | exact shr_r _ _) (by first | assumption | omega | exact b2i_01 _ | exact shr_r _ _) (by first | assumption | omega | exact b2i_01 _ | exact shr_r _ _) (by first | assumption | omega | exact b2i_01 _ | exact shr_r _ _) (by first | assumption | omega | exact b2i_01 _ | exact shr_r _ _) (by first | assumption | omega | exact b2i_01 _ | exact shr_r _ _) (by first | assumption | omega | exact b2i_01 _ | exact shr_r _ _) (by first | assumption | omega | exact b2i_01 _ | exact shr_r _ _) (by first | assumption | omega | exact b2i_01 _ | exact shr_r _ _) (by first | assumption | omega | exact b2i_01 _ | exact shr_r _ _) (by first | assumption | omega | exact b2i_01 _ | exact shr_r _ _) (by first | assumption | omega | exact b2i_01 _ | exact shr_r _ _) (by first | assumption | omega | exact b2i_01 _ | exact shr_r _ _) (by first | assumption | omega | exact b2i_01 _ | exact shr_r _ _) (by first | assumption | omega | exact b2i_01 _ | exact shr_r _ _) (by first | assumption | omega | exact b2i_01 _ | exact shr_r _ _) (by first | assumption | omega | exact b2i_01 _ | exact shr_r _ _) (by first | assumption | omega | exact b2i_01 _ | exact shr_r _ _) (by first | assumption | omega | exact b2i_01 _ | exact shr_r _ _) H.size) (va_cwS 1 hts gL_times_L_all rfl rfl rfl (by decide +kernel) ⟨Nat.le_of_ble_eq_true rfl, Nat.le_of_ble_eq_true rfl⟩) (zpS hK hP hD [0, 1, 2, 3, 4, 5, 6, 7, 8, 9, 10, 11, 12, 13, 14, 15, 16, 17, 18, 19, 20, 21, 22, 23, 24, 25, 26, 27, 28] rfl rfl) rfl rfl hl.1 rfl (lv_room (Nat.le_of_ble_eq_true rfl)) dL_times_249 ⟨Nat.le_of_ble_eq_true rfl, Nat.le_of_ble_eq_true rfl⟩) hP hD hS hA [0, 1, 2, 3, 4, 5, 6, 7, 8, 9, 10, 11, 12, 13, 14, 15, 16, 17, 18, 19, 20, 21, 22, 23, 24, 25, 26, 27, 28] [29] rfl rfl rfl (by decide) (fun v_180 u_179 H locs r_178 hP hD hS => ?_)
                          obtain ⟨runx_181, rfl⟩ : ∃ z, z = u_179 := ⟨_, rfl⟩
                          obtain ⟨v_182, r_178⟩ := r_178
                          refine ze_l v_182 ?_
                          have r_178 : tfZ runx_181 := r_178
                          have hP : va_P (dC, dI) vwCl (wPW cI cJ cZ q pw co la vo cpar fr cdee use runx_181 nC tdue tlat twk nT edue elat ewk nE len cnt tin sp pe slp late srv hv av bd sh sc lt rule now st asl idl idn par div dee w) H := hP.sub [1, 2, 3, 4, 5, 6, 7, 8, 9, 10, 11, 12, 13, 14, 15, 16, 17, 18, 19, 20, 21, 22, 23, 24, 25, 26, 27, 28, 29, 0] (z_fm rfl)
                          have hD : va_D A (wPW cI cJ cZ q pw co la vo cpar fr cdee use runx_181 nC tdue tlat twk nT edue elat ewk nE len cnt tin sp pe slp late srv hv av bd sh sc lt rule now st asl idl idn par div dee w) := hD.sub [1, 2, 3, 4, 5, 6, 7, 8, 9, 10, 11, 12, 13, 14, 15, 16, 17, 18, 19, 20, 21, 22, 23, 24, 25, 26, 27, 28, 29, 0] (by decide) rfl
                          have hrun8 := r_178
                          refine lv_lload hx hb dL_times_252 (lv_at hl 7 rfl) ?_
                          refine zl_sameN (tgt := 262) hx hb (by rfl) dL_times_254 dL_times_255 (by decide) ?_
                          refine lv_iconst (v := iI 1) hx hb dL_times_258 rfl ?_
                          refine lv_goto (tgt := 263) hx hb dL_times_259 (by decide) ?_
                          subst hQ
                          refine W.widen (k := 1) (n := 6) (by decide) (by decide) ?_
                          exact zret_z (W1 := fun u9 : (Int → Int) × (Int → Int) × (Int → Int) × Int × (Int → Int) × (Int → Int) × (Int → Int) × Int × (Int → Int) × Int × Int × Int × (Int → Int) × Int × (Int → Int) × Int × (Int → Int) => wPW cI cJ cZ q pw co la vo cpar fr cdee use (u9.2.2.2.2.2.2.2.2.1) nC (u9.1) (u9.2.1) (u9.2.2.1) (u9.2.2.2.1) (u9.2.2.2.2.1) (u9.2.2.2.2.2.1) (u9.2.2.2.2.2.2.1) (u9.2.2.2.2.2.2.2.1) (u9.2.2.2.2.2.2.2.2.2.2.2.2.2.2.1) (u9.2.2.2.2.2.2.2.2.2.2.2.2.2.2.2.1) tin (u9.2.2.2.2.2.2.2.2.2.2.1) (u9.2.2.2.2.2.2.2.2.2.2.2.1) slp late srv (u9.2.2.2.2.2.2.2.2.2.2.2.2.2.2.2.2) av bd sh sc lt rule now (u9.2.2.2.2.2.2.2.2.2.1) asl (u9.2.2.2.2.2.2.2.2.2.2.2.2.1) (u9.2.2.2.2.2.2.2.2.2.2.2.2.2.1) par div dee w) (tdue, tlat, twk, nT, edue, elat, ewk, nE, runx_181, st, sp, pe, idl, idn, len, cnt, hv) hx hb hr hP hD hS hlocks dL_times_263 (by first | decide | omega) (by exact ⟨rfl, lj_mono (K2 := K + 200) (lj_run hI hrun8) (by omega)⟩)
                · skip
                  refine lv_iload hx hb dL_times_203 (lv_at hl 1 rfl) ?_
                  refine lv_sipush (v := iI 500) hx hb dL_times_205 (by decide) ?_
                  refine zi_cgt (tgt := 218) hx hb (by omega) (by decide) dL_times_208 (by decide) (fun c_183 => ?_) (fun c_183 => ?_)
                  · skip
                    refine lv_iload hx hb dL_times_218 (lv_at hl 0 rfl) ?_
                    refine lv_iload hx hb dL_times_220 (lv_at hl 2 rfl) ?_
                    refine zi_fne (tgt := 238) hx hb (by omega) dL_times_222 (by decide) (fun c_184 => ?_) (fun c_184 => ?_)
                    · skip
                      refine lv_bipush (v := iI (-82)) hx hb dL_times_238 (by decide) ?_
                      refine lv_goto (tgt := 245) hx hb dL_times_240 (by decide) ?_
                      refine zi_cne (tgt := 262) hx hb (by decide) (by decide) dL_times_245 (by decide) (fun c_185 => ?_) (fun c_185 => ?_)
                      · skip
                        exact absurd c_185 (by decide)
                      · skip
                        refine lv_aload_n hx hb dL_times_248 rfl (lv_at hl 11 rfl) ?_
                        refine zc_l (va_runS (As := [.ref (q 0)]) (rest := []) ⟨hx, hb, hml, hown, hts⟩ (kL_all l dC dI cI cJ cZ q pw co la vo cpar fr cdee use runx_5 nC tdue tlat twk nT edue elat ewk nE len cnt tin sp pe slp late srv hv av bd sh sc lt rule now st asl idl idn par div dee (by first | assumption | omega | exact b2i_01 _ | exact shr_r _ _) (by first | assumption | omega | exact b2i_01 _ | exact shr_r _ _) (by first | assumption | omega | exact b2i_01 _ | exact shr_r _ _) (by first | assumption | omega | exact b2i_01 _ | exact shr_r _ _) (by first | assumption | omega | exact b2i_01 _ | exact shr_r _ _) (by first | assumption | omega | exact b2i_01 _ | exact shr_r _ _) (by first | assumption | omega | exact b2i_01 _ | exact shr_r _ _) (by first | assumption | omega | exact b2i_01 _ | exact shr_r _ _) (by first | assumption | omega | exact b2i_01 _ | exact shr_r _ _) (by first | assumption | omega | exact b2i_01 _ | exact shr_r _ _) (by first | assumption | omega | exact b2i_01 _ | exact shr_r _ _) (by first | assumption | omega | exact b2i_01 _ | exact shr_r _ _) (by first | assumption | omega | exact b2i_01 _ | exact shr_r _ _) (by first | assumption | omega | exact b2i_01 _ | exact shr_r _ _) (by first | assumption | omega | exact b2i_01 _ | exact shr_r _ _) (by first | assumption | omega | exact b2i_01 _ | exact shr_r _ _) (by first | assumption | omega | exact b2i_01 _ | exact shr_r _ _) (by first | assumption | omega | exact b2i_01 _ | exact shr_r _ _) (by first | assumption | omega | exact b2i_01 _ | exact shr_r _ _) (by first | assumption | omega | exact b2i_01 _ | exact shr_r _ _) (by first | assumption | omega | exact b2i_01 _ | exact shr_r _ _) H.size) (va_cwS 1 hts gL_times_L_all rfl rfl rfl (by decide +kernel) ⟨Nat.le_of_ble_eq_true rfl, Nat.le_of_ble_eq_true rfl⟩) (zpS hK hP hD [0, 1, 2, 3, 4, 5, 6, 7, 8, 9, 10, 11, 12, 13, 14, 15, 16, 17, 18, 19, 20, 21, 22, 23, 24, 25, 26, 27, 28] rfl rfl) rfl rfl hl.1 rfl (lv_room (Nat.le_of_ble_eq_true rfl)) dL_times_249 ⟨Nat.le_of_ble_eq_true rfl, Nat.le_of_ble_eq_true rfl⟩) hP hD hS hA [0, 1, 2, 3, 4, 5, 6, 7, 8, 9, 10, 11, 12, 13, 14, 15, 16, 17, 18, 19, 20, 21, 22, 23, 24, 25, 26, 27, 28] [29] rfl rfl rfl (by decide) (fun v_188 u_187 H locs r_186 hP hD hS => ?_)
                        obtain ⟨runx_189, rfl⟩ : ∃ z, z = u_187 := ⟨_, rfl⟩
                        obtain ⟨v_190, r_186⟩ := r_186
                        refine ze_l v_190 ?_
                        have r_186 : tfZ runx_189 := r_186
                        have hP : va_P (dC, dI) vwCl (wPW cI cJ cZ q pw co la vo cpar fr cdee use runx_189 nC tdue tlat twk nT edue elat ewk nE len cnt tin sp pe slp late srv hv av bd sh sc lt rule now st asl idl idn par div dee w) H := hP.sub [1, 2, 3, 4, 5, 6, 7, 8, 9, 10, 11, 12, 13, 14, 15, 16, 17, 18, 19, 20, 21, 22, 23, 24, 25, 26, 27, 28, 29, 0] (z_fm rfl)
                        have hD : va_D A (wPW cI cJ cZ q pw co la vo cpar fr cdee use runx_189 nC tdue tlat twk nT edue elat ewk nE len cnt tin sp pe slp late srv hv av bd sh sc lt rule now st asl idl idn par div dee w) := hD.sub [1, 2, 3, 4, 5, 6, 7, 8, 9, 10, 11, 12, 13, 14, 15, 16, 17, 18, 19, 20, 21, 22, 23, 24, 25, 26, 27, 28, 29, 0] (by decide) rfl
                        have hrun8 := r_186
                        refine lv_lload hx hb dL_times_252 (lv_at hl 7 rfl) ?_
                        refine zl_sameN (tgt := 262) hx hb (by rfl) dL_times_254 dL_times_255 (by decide) ?_
                        refine lv_iconst (v := iI 1) hx hb dL_times_258 rfl ?_
                        refine lv_goto (tgt := 263) hx hb dL_times_259 (by decide) ?_
                        subst hQ
                        refine W.widen (k := 1) (n := 6) (by decide) (by decide) ?_
                        exact zret_z (W1 := fun u9 : (Int → Int) × (Int → Int) × (Int → Int) × Int × (Int → Int) × (Int → Int) × (Int → Int) × Int × (Int → Int) × Int × Int × Int × (Int → Int) × Int × (Int → Int) × Int × (Int → Int) => wPW cI cJ cZ q pw co la vo cpar fr cdee use (u9.2.2.2.2.2.2.2.2.1) nC (u9.1) (u9.2.1) (u9.2.2.1) (u9.2.2.2.1) (u9.2.2.2.2.1) (u9.2.2.2.2.2.1) (u9.2.2.2.2.2.2.1) (u9.2.2.2.2.2.2.2.1) (u9.2.2.2.2.2.2.2.2.2.2.2.2.2.2.1) (u9.2.2.2.2.2.2.2.2.2.2.2.2.2.2.2.1) tin (u9.2.2.2.2.2.2.2.2.2.2.1) (u9.2.2.2.2.2.2.2.2.2.2.2.1) slp late srv (u9.2.2.2.2.2.2.2.2.2.2.2.2.2.2.2.2) av bd sh sc lt rule now (u9.2.2.2.2.2.2.2.2.2.1) asl (u9.2.2.2.2.2.2.2.2.2.2.2.2.1) (u9.2.2.2.2.2.2.2.2.2.2.2.2.2.1) par div dee w) (tdue, tlat, twk, nT, edue, elat, ewk, nE, runx_189, st, sp, pe, idl, idn, len, cnt, hv) hx hb hr hP hD hS hlocks dL_times_263 (by first | decide | omega) (by exact ⟨rfl, lj_mono (K2 := K + 200) (lj_run hI hrun8) (by omega)⟩)
                    · skip
                      refine lv_iload hx hb dL_times_225 (lv_at hl 1 rfl) ?_
                      refine zi_flt (tgt := 238) hx hb (by omega) dL_times_227 (by decide) (fun c_191 => ?_) (fun c_191 => ?_)
                      · skip
                        refine lv_bipush (v := iI (-82)) hx hb dL_times_238 (by decide) ?_
                        refine lv_goto (tgt := 245) hx hb dL_times_240 (by decide) ?_
                        refine zi_cne (tgt := 262) hx hb (by decide) (by decide) dL_times_245 (by decide) (fun c_192 => ?_) (fun c_192 => ?_)
                        · skip
                          exact absurd c_192 (by decide)
                        · skip
                          refine lv_aload_n hx hb dL_times_248 rfl (lv_at hl 11 rfl) ?_
                          refine zc_l (va_runS (As := [.ref (q 0)]) (rest := []) ⟨hx, hb, hml, hown, hts⟩ (kL_all l dC dI cI cJ cZ q pw co la vo cpar fr cdee use runx_5 nC tdue tlat twk nT edue elat ewk nE len cnt tin sp pe slp late srv hv av bd sh sc lt rule now st asl idl idn par div dee (by first | assumption | omega | exact b2i_01 _ | exact shr_r _ _) (by first | assumption | omega | exact b2i_01 _ | exact shr_r _ _) (by first | assumption | omega | exact b2i_01 _ | exact shr_r _ _) (by first | assumption | omega | exact b2i_01 _ | exact shr_r _ _) (by first | assumption | omega | exact b2i_01 _ | exact shr_r _ _) (by first | assumption | omega | exact b2i_01 _ | exact shr_r _ _) (by first | assumption | omega | exact b2i_01 _ | exact shr_r _ _) (by first | assumption | omega | exact b2i_01 _ | exact shr_r _ _) (by first | assumption | omega | exact b2i_01 _ | exact shr_r _ _) (by first | assumption | omega | exact b2i_01 _ | exact shr_r _ _) (by first | assumption | omega | exact b2i_01 _ | exact shr_r _ _) (by first | assumption | omega | exact b2i_01 _ | exact shr_r _ _) (by first | assumption | omega | exact b2i_01 _ | exact shr_r _ _) (by first | assumption | omega | exact b2i_01 _ | exact shr_r _ _) (by first | assumption | omega | exact b2i_01 _ | exact shr_r _ _) (by first | assumption | omega | exact b2i_01 _ | exact shr_r _ _) (by first | assumption | omega | exact b2i_01 _ | exact shr_r _ _) (by first | assumption | omega | exact b2i_01 _ | exact shr_r _ _) (by first | assumption | omega | exact b2i_01 _ | exact shr_r _ _) (by first | assumption | omega | exact b2i_01 _ | exact shr_r _ _) (by first | assumption | omega | exact b2i_01 _ | exact shr_r _ _) H.size) (va_cwS 1 hts gL_times_L_all rfl rfl rfl (by decide +kernel) ⟨Nat.le_of_ble_eq_true rfl, Nat.le_of_ble_eq_true rfl⟩) (zpS hK hP hD [0, 1, 2, 3, 4, 5, 6, 7, 8, 9, 10, 11, 12, 13, 14, 15, 16, 17, 18, 19, 20, 21, 22, 23, 24, 25, 26, 27, 28] rfl rfl) rfl rfl hl.1 rfl (lv_room (Nat.le_of_ble_eq_true rfl)) dL_times_249 ⟨Nat.le_of_ble_eq_true rfl, Nat.le_of_ble_eq_true rfl⟩) hP hD hS hA [0, 1, 2, 3, 4, 5, 6, 7, 8, 9, 10, 11, 12, 13, 14, 15, 16, 17, 18, 19, 20, 21, 22, 23, 24, 25, 26, 27, 28] [29] rfl rfl rfl (by decide) (fun v_195 u_194 H locs r_193 hP hD hS => ?_)
                          obtain ⟨runx_196, rfl⟩ : ∃ z, z = u_194 := ⟨_, rfl⟩
                          obtain ⟨v_197, r_193⟩ := r_193
                          refine ze_l v_197 ?_
                          have r_193 : tfZ runx_196 := r_193
                          have hP : va_P (dC, dI) vwCl (wPW cI cJ cZ q pw co la vo cpar fr cdee use runx_196 nC tdue tlat twk nT edue elat ewk nE len cnt tin sp pe slp late srv hv av bd sh sc lt rule now st asl idl idn par div dee w) H := hP.sub [1, 2, 3, 4, 5, 6, 7, 8, 9, 10, 11, 12, 13, 14, 15, 16, 17, 18, 19, 20, 21, 22, 23, 24, 25, 26, 27, 28, 29, 0] (z_fm rfl)
                          have hD : va_D A (wPW cI cJ cZ q pw co la vo cpar fr cdee use runx_196 nC tdue tlat twk nT edue elat ewk nE len cnt tin sp pe slp late srv hv av bd sh sc lt rule now st asl idl idn par div dee w) := hD.sub [1, 2, 3, 4, 5, 6, 7, 8, 9, 10, 11, 12, 13, 14, 15, 16, 17, 18, 19, 20, 21, 22, 23, 24, 25, 26, 27, 28, 29, 0] (by decide) rfl
                          have hrun8 := r_193
                          refine lv_lload hx hb dL_times_252 (lv_at hl 7 rfl) ?_
                          refine zl_sameN (tgt := 262) hx hb (by rfl) dL_times_254 dL_times_255 (by decide) ?_
                          refine lv_iconst (v := iI 1) hx hb dL_times_258 rfl ?_
                          refine lv_goto (tgt := 263) hx hb dL_times_259 (by decide) ?_
                          subst hQ
                          refine W.widen (k := 1) (n := 6) (by decide) (by decide) ?_
                          exact zret_z (W1 := fun u9 : (Int → Int) × (Int → Int) × (Int → Int) × Int × (Int → Int) × (Int → Int) × (Int → Int) × Int × (Int → Int) × Int × Int × Int × (Int → Int) × Int × (Int → Int) × Int × (Int → Int) => wPW cI cJ cZ q pw co la vo cpar fr cdee use (u9.2.2.2.2.2.2.2.2.1) nC (u9.1) (u9.2.1) (u9.2.2.1) (u9.2.2.2.1) (u9.2.2.2.2.1) (u9.2.2.2.2.2.1) (u9.2.2.2.2.2.2.1) (u9.2.2.2.2.2.2.2.1) (u9.2.2.2.2.2.2.2.2.2.2.2.2.2.2.1) (u9.2.2.2.2.2.2.2.2.2.2.2.2.2.2.2.1) tin (u9.2.2.2.2.2.2.2.2.2.2.1) (u9.2.2.2.2.2.2.2.2.2.2.2.1) slp late srv (u9.2.2.2.2.2.2.2.2.2.2.2.2.2.2.2.2) av bd sh sc lt rule now (u9.2.2.2.2.2.2.2.2.2.1) asl (u9.2.2.2.2.2.2.2.2.2.2.2.2.1) (u9.2.2.2.2.2.2.2.2.2.2.2.2.2.1) par div dee w) (tdue, tlat, twk, nT, edue, elat, ewk, nE, runx_196, st, sp, pe, idl, idn, len, cnt, hv) hx hb hr hP hD hS hlocks dL_times_263 (by first | decide | omega) (by exact ⟨rfl, lj_mono (K2 := K + 200) (lj_run hI hrun8) (by omega)⟩)
                      · skip
                        refine lv_iload hx hb dL_times_230 (lv_at hl 1 rfl) ?_
                        refine lv_sipush (v := iI 500) hx hb dL_times_232 (by decide) ?_
                        refine zi_cle (tgt := 243) hx hb (by omega) (by decide) dL_times_235 (by decide) (fun c_198 => ?_) (fun c_198 => ?_)
                        · skip
                          exact absurd c_198 (by omega)
                        · skip
                          refine lv_bipush (v := iI (-82)) hx hb dL_times_238 (by decide) ?_
                          refine lv_goto (tgt := 245) hx hb dL_times_240 (by decide) ?_
                          refine zi_cne (tgt := 262) hx hb (by decide) (by decide) dL_times_245 (by decide) (fun c_199 => ?_) (fun c_199 => ?_)
                          · skip
                            exact absurd c_199 (by decide)
                          · skip
                            refine lv_aload_n hx hb dL_times_248 rfl (lv_at hl 11 rfl) ?_
                            refine zc_l (va_runS (As := [.ref (q 0)]) (rest := []) ⟨hx, hb, hml, hown, hts⟩ (kL_all l dC dI cI cJ cZ q pw co la vo cpar fr cdee use runx_5 nC tdue tlat twk nT edue elat ewk nE len cnt tin sp pe slp late srv hv av bd sh sc lt rule now st asl idl idn par div dee (by first | assumption | omega | exact b2i_01 _ | exact shr_r _ _) (by first | assumption | omega | exact b2i_01 _ | exact shr_r _ _) (by first | assumption | omega | exact b2i_01 _ | exact shr_r _ _) (by first | assumption | omega | exact b2i_01 _ | exact shr_r _ _) (by first | assumption | omega | exact b2i_01 _ | exact shr_r _ _) (by first | assumption | omega | exact b2i_01 _ | exact shr_r _ _) (by first | assumption | omega | exact b2i_01 _ | exact shr_r _ _) (by first | assumption | omega | exact b2i_01 _ | exact shr_r _ _) (by first | assumption | omega | exact b2i_01 _ | exact shr_r _ _) (by first | assumption | omega | exact b2i_01 _ | exact shr_r _ _) (by first | assumption | omega | exact b2i_01 _ | exact shr_r _ _) (by first | assumption | omega | exact b2i_01 _ | exact shr_r _ _) (by first | assumption | omega | exact b2i_01 _ | exact shr_r _ _) (by first | assumption | omega | exact b2i_01 _ | exact shr_r _ _) (by first | assumption | omega | exact b2i_01 _ | exact shr_r _ _) (by first | assumption | omega | exact b2i_01 _ | exact shr_r _ _) (by first | assumption | omega | exact b2i_01 _ | exact shr_r _ _) (by first | assumption | omega | exact b2i_01 _ | exact shr_r _ _) (by first | assumption | omega | exact b2i_01 _ | exact shr_r _ _) (by first | assumption | omega | exact b2i_01 _ | exact shr_r _ _) (by first | assumption | omega | exact b2i_01 _ | exact shr_r _ _) H.size) (va_cwS 1 hts gL_times_L_all rfl rfl rfl (by decide +kernel) ⟨Nat.le_of_ble_eq_true rfl, Nat.le_of_ble_eq_true rfl⟩) (zpS hK hP hD [0, 1, 2, 3, 4, 5, 6, 7, 8, 9, 10, 11, 12, 13, 14, 15, 16, 17, 18, 19, 20, 21, 22, 23, 24, 25, 26, 27, 28] rfl rfl) rfl rfl hl.1 rfl (lv_room (Nat.le_of_ble_eq_true rfl)) dL_times_249 ⟨Nat.le_of_ble_eq_true rfl, Nat.le_of_ble_eq_true rfl⟩) hP hD hS hA [0, 1, 2, 3, 4, 5, 6, 7, 8, 9, 10, 11, 12, 13, 14, 15, 16, 17, 18, 19, 20, 21, 22, 23, 24, 25, 26, 27, 28] [29] rfl rfl rfl (by decide) (fun v_202 u_201 H locs r_200 hP hD hS => ?_)
                            obtain ⟨runx_203, rfl⟩ : ∃ z, z = u_201 := ⟨_, rfl⟩
                            obtain ⟨v_204, r_200⟩ := r_200
                            refine ze_l v_204 ?_
                            have r_200 : tfZ runx_203 := r_200
                            have hP : va_P (dC, dI) vwCl (wPW cI cJ cZ q pw co la vo cpar fr cdee use runx_203 nC tdue tlat twk nT edue elat ewk nE len cnt tin sp pe slp late srv hv av bd sh sc lt rule now st asl idl idn par div dee w) H := hP.sub [1, 2, 3, 4, 5, 6, 7, 8, 9, 10, 11, 12, 13, 14, 15, 16, 17, 18, 19, 20, 21, 22, 23, 24, 25, 26, 27, 28, 29, 0] (z_fm rfl)
                            have hD : va_D A (wPW cI cJ cZ q pw co la vo cpar fr cdee use runx_203 nC tdue tlat twk nT edue elat ewk nE len cnt tin sp pe slp late srv hv av bd sh sc lt rule now st asl idl idn par div dee w) := hD.sub [1, 2, 3, 4, 5, 6, 7, 8, 9, 10, 11, 12, 13, 14, 15, 16, 17, 18, 19, 20, 21, 22, 23, 24, 25, 26, 27, 28, 29, 0] (by decide) rfl
                            have hrun8 := r_200
                            refine lv_lload hx hb dL_times_252 (lv_at hl 7 rfl) ?_
                            refine zl_sameN (tgt := 262) hx hb (by rfl) dL_times_254 dL_times_255 (by decide) ?_
                            refine lv_iconst (v := iI 1) hx hb dL_times_258 rfl ?_
                            refine lv_goto (tgt := 263) hx hb dL_times_259 (by decide) ?_
                            subst hQ
                            refine W.widen (k := 1) (n := 6) (by decide) (by decide) ?_
                            exact zret_z (W1 := fun u9 : (Int → Int) × (Int → Int) × (Int → Int) × Int × (Int → Int) × (Int → Int) × (Int → Int) × Int × (Int → Int) × Int × Int × Int × (Int → Int) × Int × (Int → Int) × Int × (Int → Int) => wPW cI cJ cZ q pw co la vo cpar fr cdee use (u9.2.2.2.2.2.2.2.2.1) nC (u9.1) (u9.2.1) (u9.2.2.1) (u9.2.2.2.1) (u9.2.2.2.2.1) (u9.2.2.2.2.2.1) (u9.2.2.2.2.2.2.1) (u9.2.2.2.2.2.2.2.1) (u9.2.2.2.2.2.2.2.2.2.2.2.2.2.2.1) (u9.2.2.2.2.2.2.2.2.2.2.2.2.2.2.2.1) tin (u9.2.2.2.2.2.2.2.2.2.2.1) (u9.2.2.2.2.2.2.2.2.2.2.2.1) slp late srv (u9.2.2.2.2.2.2.2.2.2.2.2.2.2.2.2.2) av bd sh sc lt rule now (u9.2.2.2.2.2.2.2.2.2.1) asl (u9.2.2.2.2.2.2.2.2.2.2.2.2.1) (u9.2.2.2.2.2.2.2.2.2.2.2.2.2.1) par div dee w) (tdue, tlat, twk, nT, edue, elat, ewk, nE, runx_203, st, sp, pe, idl, idn, len, cnt, hv) hx hb hr hP hD hS hlocks dL_times_263 (by first | decide | omega) (by exact ⟨rfl, lj_mono (K2 := K + 200) (lj_run hI hrun8) (by omega)⟩)
                  · skip
                    exact absurd c_183 (by omega)
          refine lv_iload_n hx hb dL_times_150 rfl (lv_at hl 12 rfl) ?_
          refine zi_feq (tgt := 169) hx hb (by omega) dL_times_151 (by decide) (fun c_205 => ?_) (fun c_205 => ?_)
          · skip
            refine lv_iload_n hx hb dL_times_169 rfl (lv_at hl 11 rfl) ?_
            refine lv_bipush (v := iI 6) hx hb dL_times_170 (by decide) ?_
            refine zi_shr hx hb dL_times_172 ?_
            refine lv_bipush (v := iI 30) hx hb dL_times_173 (by decide) ?_
            refine zc_pi (va_runS (As := [.int (iI (shrZ y 6)), .int (iI 30)]) (rest := []) ⟨hx, hb, hml, hown, hts⟩ (kL_some l dC dI cI cJ cZ (shrZ y 6) 30 (by first | assumption | omega | exact b2i_01 _ | exact shr_r _ _) (by first | assumption | omega | exact b2i_01 _ | exact shr_r _ _)) (va_cwS 2 hts gL_times_L_some rfl rfl rfl (by decide +kernel) ⟨Nat.le_of_ble_eq_true rfl, Nat.le_of_ble_eq_true rfl⟩) (zqS hK hP [] rfl) rfl rfl hl.1 rfl (lv_room (Nat.le_of_ble_eq_true rfl)) dL_times_175 ⟨Nat.le_of_ble_eq_true rfl, Nat.le_of_ble_eq_true rfl⟩) ?_
            have e_206 := sm_r (shrZ y 6) (show (0 : Int) < 30 by decide)
            exact L178 (smZ (shrZ y 6) 30) (by omega) H locs hP hD hS ls (lv_sub hl [0, 1, 2, 3, 4, 5, 6, 7, 8, 9, 10, 11, 12] rfl)
          · skip
            refine lv_iload_n hx hb dL_times_154 rfl (lv_at hl 11 rfl) ?_
            refine lv_bipush (v := iI 6) hx hb dL_times_155 (by decide) ?_
            refine zi_shr hx hb dL_times_157 ?_
            refine lv_sipush (v := iI 510) hx hb dL_times_158 (by decide) ?_
            refine zc_pi (va_runS (As := [.int (iI (shrZ y 6)), .int (iI 510)]) (rest := []) ⟨hx, hb, hml, hown, hts⟩ (kL_some l dC dI cI cJ cZ (shrZ y 6) 510 (by first | assumption | omega | exact b2i_01 _ | exact shr_r _ _) (by first | assumption | omega | exact b2i_01 _ | exact shr_r _ _)) (va_cwS 2 hts gL_times_L_some rfl rfl rfl (by decide +kernel) ⟨Nat.le_of_ble_eq_true rfl, Nat.le_of_ble_eq_true rfl⟩) (zqS hK hP [] rfl) rfl rfl hl.1 rfl (lv_room (Nat.le_of_ble_eq_true rfl)) dL_times_161 ⟨Nat.le_of_ble_eq_true rfl, Nat.le_of_ble_eq_true rfl⟩) ?_
            have e_207 := sm_r (shrZ y 6) (show (0 : Int) < 510 by decide)
            refine lv_iconst (v := iI 5) hx hb dL_times_164 rfl ?_
            refine zi_sub hx hb dL_times_165 ?_
            refine lv_goto (tgt := 178) hx hb dL_times_166 (by decide) ?_
            exact L178 ((smZ (shrZ y 6) 510) - 5) (by omega) H locs hP hD hS ls (lv_sub hl [0, 1, 2, 3, 4, 5, 6, 7, 8, 9, 10, 11, 12] rfl)
      refine lv_iload hx hb dL_times_102 (lv_at hl 3 rfl) ?_
      refine lv_aload_n hx hb dL_times_104 rfl (lv_at hl 8 rfl) ?_
      refine zc_pi (va_runV (As := []) (rest := [.int (iI (now + t1))]) ⟨hx, hb, hml, hown, hts⟩ (kX7_now l dC dI cI cJ cZ q pw co la vo cpar fr cdee use runx_5 nC tdue tlat twk nT edue elat ewk nE len cnt tin sp pe slp late srv hv av bd sh sc lt rule now st asl idl idn par div dee) (cwV 0 hts gL_times_X7_now rfl rfl rfl (by decide +kernel) ⟨Nat.le_of_ble_eq_true rfl, Nat.le_of_ble_eq_true rfl⟩) (zqV hK hP [0, 1, 2, 3, 4, 5, 6, 7, 8, 9, 10, 11, 12, 13, 14, 15, 16, 17, 18, 19, 20, 21, 22, 23, 24, 25, 26, 27, 28] rfl 0 rfl rfl) rfl rfl hl.1 rfl (lv_room (Nat.le_of_ble_eq_true rfl)) dL_times_105 ⟨Nat.le_of_ble_eq_true rfl, Nat.le_of_ble_eq_true rfl⟩) ?_
      refine zi_clt (tgt := 137) hx hb (by omega) (by omega) dL_times_108 (by decide) (fun c_208 => ?_) (fun c_208 => ?_)
      · skip
        refine lv_iconst (v := iI 1) hx hb dL_times_137 rfl ?_
        refine lv_goto (tgt := 142) hx hb dL_times_138 (by decide) ?_
        exact L142 1 (by omega) H locs hP hD hS ls (lv_sub hl [0, 1, 2, 3, 4, 5, 6, 7, 8, 9, 10, 11] rfl)
      · skip
        refine lv_iload hx hb dL_times_111 (lv_at hl 3 rfl) ?_
        refine lv_aload_n hx hb dL_times_113 rfl (lv_at hl 8 rfl) ?_
        refine zc_pi (va_runV (As := []) (rest := [.int (iI (now + t1))]) ⟨hx, hb, hml, hown, hts⟩ (kX7_now l dC dI cI cJ cZ q pw co la vo cpar fr cdee use runx_5 nC tdue tlat twk nT edue elat ewk nE len cnt tin sp pe slp late srv hv av bd sh sc lt rule now st asl idl idn par div dee) (cwV 0 hts gL_times_X7_now rfl rfl rfl (by decide +kernel) ⟨Nat.le_of_ble_eq_true rfl, Nat.le_of_ble_eq_true rfl⟩) (zqV hK hP [0, 1, 2, 3, 4, 5, 6, 7, 8, 9, 10, 11, 12, 13, 14, 15, 16, 17, 18, 19, 20, 21, 22, 23, 24, 25, 26, 27, 28] rfl 0 rfl rfl) rfl rfl hl.1 rfl (lv_room (Nat.le_of_ble_eq_true rfl)) dL_times_114 ⟨Nat.le_of_ble_eq_true rfl, Nat.le_of_ble_eq_true rfl⟩) ?_
        refine lv_sipush (v := iI 1000) hx hb dL_times_117 (by decide) ?_
        refine zi_add hx hb dL_times_120 ?_
        refine zi_cgt (tgt := 137) hx hb (by omega) (by omega) dL_times_121 (by decide) (fun c_209 => ?_) (fun c_209 => ?_)
        · skip
          refine lv_iconst (v := iI 1) hx hb dL_times_137 rfl ?_
          refine lv_goto (tgt := 142) hx hb dL_times_138 (by decide) ?_
          exact L142 1 (by omega) H locs hP hD hS ls (lv_sub hl [0, 1, 2, 3, 4, 5, 6, 7, 8, 9, 10, 11] rfl)
        · skip
          refine lv_iload hx hb dL_times_124 (lv_at hl 2 rfl) ?_
          refine lv_iconst (v := iI 1) hx hb dL_times_126 rfl ?_
          refine zi_clt (tgt := 137) hx hb (by omega) (by decide) dL_times_127 (by decide) (fun c_210 => ?_) (fun c_210 => ?_)
          · skip
            refine lv_iconst (v := iI 1) hx hb dL_times_137 rfl ?_
            refine lv_goto (tgt := 142) hx hb dL_times_138 (by decide) ?_
            exact L142 1 (by omega) H locs hP hD hS ls (lv_sub hl [0, 1, 2, 3, 4, 5, 6, 7, 8, 9, 10, 11] rfl)
          · skip
            refine lv_iload hx hb dL_times_130 (lv_at hl 2 rfl) ?_
            refine lv_bipush (v := iI 50) hx hb dL_times_132 (by decide) ?_
            refine zi_cle (tgt := 141) hx hb (by omega) (by decide) dL_times_134 (by decide) (fun c_211 => ?_) (fun c_211 => ?_)
            · skip
              refine lv_iconst (v := iI 0) hx hb dL_times_141 rfl ?_
              exact L142 0 (by omega) H locs hP hD hS ls (lv_sub hl [0, 1, 2, 3, 4, 5, 6, 7, 8, 9, 10, 11] rfl)
            · skip
              refine lv_iconst (v := iI 1) hx hb dL_times_137 rfl ?_
              refine lv_goto (tgt := 142) hx hb dL_times_138 (by decide) ?_
              exact L142 1 (by omega) H locs hP hD hS ls (lv_sub hl [0, 1, 2, 3, 4, 5, 6, 7, 8, 9, 10, 11] rfl)
    refine lv_iload_n hx hb dL_times_59 rfl (lv_at hl 8 rfl) ?_
    refine zi_feq (tgt := 77) hx hb (by omega) dL_times_60 (by decide) (fun c_212 => ?_) (fun c_212 => ?_)
    · skip
      refine lv_iconst (v := iI 1) hx hb dL_times_77 rfl ?_
      refine lv_iload_n hx hb dL_times_78 rfl (lv_at hl 7 rfl) ?_
      refine lv_bipush (v := iI 9) hx hb dL_times_79 (by decide) ?_
      refine zi_shr hx hb dL_times_81 ?_
      refine lv_bipush (v := iI 9) hx hb dL_times_82 (by decide) ?_
      refine zc_pi (va_runS (As := [.int (iI (shrZ y 9)), .int (iI 9)]) (rest := [.int (iI 1)]) ⟨hx, hb, hml, hown, hts⟩ (kL_some l dC dI cI cJ cZ (shrZ y 9) 9 (by first | assumption | omega | exact b2i_01 _ | exact shr_r _ _) (by first | assumption | omega | exact b2i_01 _ | exact shr_r _ _)) (va_cwS 2 hts gL_times_L_some rfl rfl rfl (by decide +kernel) ⟨Nat.le_of_ble_eq_true rfl, Nat.le_of_ble_eq_true rfl⟩) (zqS hK hP [] rfl) rfl rfl hl.1 rfl (lv_room (Nat.le_of_ble_eq_true rfl)) dL_times_84 ⟨Nat.le_of_ble_eq_true rfl, Nat.le_of_ble_eq_true rfl⟩) ?_
      have e_213 := sm_r (shrZ y 9) (show (0 : Int) < 9 by decide)
      refine zi_add hx hb dL_times_87 ?_
      exact L88 (1 + (smZ (shrZ y 9) 9)) (by omega) H locs hP hD hS ls (lv_sub hl [0, 1, 2, 3, 4, 5, 6, 7, 8] rfl)
    · skip
      refine lv_iload_n hx hb dL_times_63 rfl (lv_at hl 7 rfl) ?_
      refine lv_bipush (v := iI 9) hx hb dL_times_64 (by decide) ?_
      refine zi_shr hx hb dL_times_66 ?_
      refine lv_bipush (v := iI 56) hx hb dL_times_67 (by decide) ?_
      refine zc_pi (va_runS (As := [.int (iI (shrZ y 9)), .int (iI 56)]) (rest := []) ⟨hx, hb, hml, hown, hts⟩ (kL_some l dC dI cI cJ cZ (shrZ y 9) 56 (by first | assumption | omega | exact b2i_01 _ | exact shr_r _ _) (by first | assumption | omega | exact b2i_01 _ | exact shr_r _ _)) (va_cwS 2 hts gL_times_L_some rfl rfl rfl (by decide +kernel) ⟨Nat.le_of_ble_eq_true rfl, Nat.le_of_ble_eq_true rfl⟩) (zqS hK hP [] rfl) rfl rfl hl.1 rfl (lv_room (Nat.le_of_ble_eq_true rfl)) dL_times_69 ⟨Nat.le_of_ble_eq_true rfl, Nat.le_of_ble_eq_true rfl⟩) ?_
      have e_214 := sm_r (shrZ y 9) (show (0 : Int) < 56 by decide)
      refine lv_iconst (v := iI 3) hx hb dL_times_72 rfl ?_
      refine zi_sub hx hb dL_times_73 ?_
      refine lv_goto (tgt := 88) hx hb dL_times_74 (by decide) ?_
      exact L88 ((smZ (shrZ y 9) 56) - 3) (by omega) H locs hP hD hS ls (lv_sub hl [0, 1, 2, 3, 4, 5, 6, 7, 8] rfl)
  refine lv_iload_n hx hb dL_times_30 rfl (lv_at hl 7 rfl) ?_
  refine zi_feq (tgt := 48) hx hb (by omega) dL_times_31 (by decide) (fun c_215 => ?_) (fun c_215 => ?_)
  · skip
    refine lv_iload_n hx hb dL_times_48 rfl (lv_at hl 6 rfl) ?_
    refine lv_iconst (v := iI 3) hx hb dL_times_49 rfl ?_
    refine zi_shr hx hb dL_times_50 ?_
    refine lv_bipush (v := iI 60) hx hb dL_times_51 (by decide) ?_
    refine zc_pi (va_runS (As := [.int (iI (shrZ y 3)), .int (iI 60)]) (rest := [.int (iI now)]) ⟨hx, hb, hml, hown, hts⟩ (kL_some l dC dI cI cJ cZ (shrZ y 3) 60 (by first | assumption | omega | exact b2i_01 _ | exact shr_r _ _) (by first | assumption | omega | exact b2i_01 _ | exact shr_r _ _)) (va_cwS 2 hts gL_times_L_some rfl rfl rfl (by decide +kernel) ⟨Nat.le_of_ble_eq_true rfl, Nat.le_of_ble_eq_true rfl⟩) (zqS hK hP [] rfl) rfl rfl hl.1 rfl (lv_room (Nat.le_of_ble_eq_true rfl)) dL_times_53 ⟨Nat.le_of_ble_eq_true rfl, Nat.le_of_ble_eq_true rfl⟩) ?_
    have e_216 := sm_r (shrZ y 3) (show (0 : Int) < 60 by decide)
    exact L56 (smZ (shrZ y 3) 60) (by omega) H locs hP hD hS ls (lv_sub hl [0, 1, 2, 3, 4, 5, 6, 7] rfl)
  · skip
    refine lv_iload_n hx hb dL_times_34 rfl (lv_at hl 6 rfl) ?_
    refine lv_iconst (v := iI 3) hx hb dL_times_35 rfl ?_
    refine zi_shr hx hb dL_times_36 ?_
    refine lv_sipush (v := iI 1010) hx hb dL_times_37 (by decide) ?_
    refine zc_pi (va_runS (As := [.int (iI (shrZ y 3)), .int (iI 1010)]) (rest := [.int (iI now)]) ⟨hx, hb, hml, hown, hts⟩ (kL_some l dC dI cI cJ cZ (shrZ y 3) 1010 (by first | assumption | omega | exact b2i_01 _ | exact shr_r _ _) (by first | assumption | omega | exact b2i_01 _ | exact shr_r _ _)) (va_cwS 2 hts gL_times_L_some rfl rfl rfl (by decide +kernel) ⟨Nat.le_of_ble_eq_true rfl, Nat.le_of_ble_eq_true rfl⟩) (zqS hK hP [] rfl) rfl rfl hl.1 rfl (lv_room (Nat.le_of_ble_eq_true rfl)) dL_times_40 ⟨Nat.le_of_ble_eq_true rfl, Nat.le_of_ble_eq_true rfl⟩) ?_
    have e_217 := sm_r (shrZ y 3) (show (0 : Int) < 1010 by decide)
    refine lv_iconst (v := iI 5) hx hb dL_times_43 rfl ?_
    refine zi_sub hx hb dL_times_44 ?_
    refine lv_goto (tgt := 56) hx hb dL_times_45 (by decide) ?_
    exact L56 ((smZ (shrZ y 3) 1010) - 5) (by omega) H locs hP hD hS ls (lv_sub hl [0, 1, 2, 3, 4, 5, 6, 7] rfl)
