def rmL_changes : Room := { frames := 8, cells := 1, slots := 6, locals := 186 }
set_option maxRecDepth 100000 in
set_option maxHeartbeats 4000000 in
theorem kL_changes (l : Launch) (dC : Nat → ClassId) (dI : Nat → Nat → Nat) (cI cJ cZ : ClassId) (q : Nat → Nat)  (pw : Int → Int) (co : Int → Int) (la : Int → Int) (vo : Int → Int) (cpar : Int → Int) (fr : Int → Int) (cdee : Int → Int) (use : Int → Int) (run : Int → Int) (nC : Int) (tdue : Int → Int) (tlat : Int → Int) (twk : Int → Int) (nT : Int) (edue : Int → Int) (elat : Int → Int) (ewk : Int → Int) (nE : Int) (len : Int → Int) (cnt : Int) (tin : Int → Int) (sp : Int) (pe : Int) (slp : Int) (late : Int) (srv : Int) (hv : Int → Int) (av : Int) (bd : Int) (sh : Int) (sc : Int → Int) (lt : Int → Int) (rule : Int) (now : Int) (st : Int) (asl : Int) (idl : Int → Int) (idn : Int) (par : Int → Int) (div : Int → Int) (dee : Int → Int) (w : Int → Int) (y od : Int) (K : Int) (hK : 0 ≤ K ∧ K ≤ 100000) (hy : zR y) (hod : zR od) (hI : LJ K pw co la vo cdee use run nC tdue tlat twk nT edue elat ewk nE len cnt tin sp pe slp late srv hv av bd sh rule now st asl idl idn dee w) : zMyi l yL_changes wsL_changes rmL_changes (dC, dI) (zT cI cJ cZ) (wPW cI cJ cZ q pw co la vo cpar fr cdee use run nC tdue tlat twk nT edue elat ewk nE len cnt tin sp pe slp late srv hv av bd sh sc lt rule now st asl idl idn par div dee w) [.ref (q 0), .ref (q 29), .int (iI y), .int (iI od)] (fun (r9 : Int) (u9 : (Int → Int) × (Int → Int) × (Int → Int) × (Int → Int) × (Int → Int) × Int × Int × Int × (Int → Int) × Int × (Int → Int) × Int × Int × (Int → Int)) => r9 = 1 ∧ (LJ (K + 200) (u9.1) (u9.2.1) (u9.2.2.1) (u9.2.2.2.1) cdee use (u9.2.2.2.2.1) nC tdue tlat twk nT edue elat ewk nE (u9.2.2.2.2.2.2.2.2.2.2.1) (u9.2.2.2.2.2.2.2.2.2.2.2.1) tin (u9.2.2.2.2.2.2.1) (u9.2.2.2.2.2.2.2.1) slp late srv hv av bd sh (u9.2.2.2.2.2.2.2.2.2.2.2.2.1) now (u9.2.2.2.2.2.1) asl (u9.2.2.2.2.2.2.2.2.1) (u9.2.2.2.2.2.2.2.2.2.1) dee (u9.2.2.2.2.2.2.2.2.2.2.2.2.2))) (fun u9 : (Int → Int) × (Int → Int) × (Int → Int) × (Int → Int) × (Int → Int) × Int × Int × Int × (Int → Int) × Int × (Int → Int) × Int × Int × (Int → Int) => wPW cI cJ cZ q (u9.1) (u9.2.1) (u9.2.2.1) (u9.2.2.2.1) cpar fr cdee use (u9.2.2.2.2.1) nC tdue tlat twk nT edue elat ewk nE (u9.2.2.2.2.2.2.2.2.2.2.1) (u9.2.2.2.2.2.2.2.2.2.2.2.1) tin (u9.2.2.2.2.2.2.1) (u9.2.2.2.2.2.2.2.1) slp late srv hv av bd sh sc lt (u9.2.2.2.2.2.2.2.2.2.2.2.2.1) now (u9.2.2.2.2.2.1) asl (u9.2.2.2.2.2.2.2.2.1) (u9.2.2.2.2.2.2.2.2.2.1) par div dee (u9.2.2.2.2.2.2.2.2.2.2.2.2.2)) := by
  refine zentz_i (cc := cL_changes) (maxL := 17) (ret := (some .boolean)) (by decide +kernel) rfl (Nat.le_of_ble_eq_true rfl) ?_
  intro p e s m below meth c A ls htr hY hX hE hP hK hA hD hS hl
  obtain ⟨hx, hb, hr, hml, hown, hts, hlocks, hmn⟩ := hE
  have hinX7 : ∀ w ∈ u_ws RX7 TX7 13, w ∈ wsL_changes := by decide +kernel
  have hinX4 : ∀ w ∈ u_ws RX4 TX4 6, w ∈ wsL_changes := by decide +kernel
  have hinX0 : ∀ w ∈ u_ws RX0 TX0 4, w ∈ wsL_changes := by decide +kernel
  have hinX3 : ∀ w ∈ u_ws RX3 TX3 4, w ∈ wsL_changes := by decide +kernel
  have hinX1 : ∀ w ∈ u_ws RX1 TX1 6, w ∈ wsL_changes := by decide +kernel
  have hinX6 : ∀ w ∈ u_ws RX6 TX6 3, w ∈ wsL_changes := by decide +kernel
  have hinX2 : ∀ w ∈ u_ws RX2 TX2 2, w ∈ wsL_changes := by decide +kernel
  have hl : lv_has ls 17 [(0, .ref (q 0)), (1, .ref (q 29)), (2, .int (iI y)), (3, .int (iI od))] := hl
  refine z_gen (fun Q hQ => ?_)
  obtain ⟨⟨hpw, hco, hla, hc0, hl0⟩, ⟨hnC1, hu0, huse, hrun, hcd, hvo, hd0, hde⟩, ⟨hrl, hhv, hid, hel⟩, hti, hsb, hw0, hw4, hw8⟩ := id hI
  obtain ⟨i1, i2, i3, i4, i5, i6, i7, i8, i9, i10, i11, i12, i13, i14, i15, i16, i17⟩ := id hti
  have hnC : 1 ≤ nC ∧ nC ≤ 8 := by omega
  have hcp : ∀ c : Int, 1 ≤ c → c < nC → 0 ≤ cpar c ∧ cpar c < c := fun c h1 h2 => absurd h2 (by omega)
  have hpp : ∀ c : Int, 1 ≤ c → c < nC → par c = cpar c := fun c h1 h2 => absurd h2 (by omega)
  have hdd : ∀ c : Int, 1 ≤ c → c < nC → dee c = cdee c := fun c h1 h2 => absurd h2 (by omega)
  have hdz := dzM_r (par := par) (use := use) hvo hde hnC
  have htdl : ∀ k : Int, 0 ≤ k → k < nT → tdue k ≤ tlat k := fun k h1 h2 => (i14 k h1 h2).2
  have htnl : ∀ k : Int, 0 ≤ k → k < nT → now ≤ tlat k := fun k h1 h2 => (i14 k h1 h2).1
  have hn8 := nx_ll i5 i6 i4
  have hp0 := hpw 0 (by omega) (by omega)
  have hls := hla st (by omega) (by omega)
  have hml9 := mul_r hp0 hls
  refine lv_iload_n hx hb dL_changes_0 rfl (lv_at hl 2 rfl) ?_
  refine lv_bipush (v := iI 8) hx hb dL_changes_1 (by decide) ?_
  refine zc_pi (va_runS (As := [.int (iI y), .int (iI 8)]) (rest := []) ⟨hx, hb, hml, hown, hts⟩ (kL_some l dC dI cI cJ cZ y 8 (by first | assumption | omega | exact b2i_01 _ | exact shr_r _ _) (by first | assumption | omega | exact b2i_01 _ | exact shr_r _ _)) (va_cwS 2 hts gL_changes_L_some rfl rfl rfl (by decide +kernel) ⟨Nat.le_of_ble_eq_true rfl, Nat.le_of_ble_eq_true rfl⟩) (zqS hK hP [] rfl) rfl rfl hl.1 rfl (lv_room (Nat.le_of_ble_eq_true rfl)) dL_changes_3 ⟨Nat.le_of_ble_eq_true rfl, Nat.le_of_ble_eq_true rfl⟩) ?_
  have e_1 := sm_r y (show (0 : Int) < 8 by decide)
  refine lv_istore (lv' := [(4, .int (iI (smZ y 8))), (0, .ref (q 0)), (1, .ref (q 29)), (2, .int (iI y)), (3, .int (iI od))]) hx hb dL_changes_6 hl (by decide) rfl (fun ls hl => ?_)
  refine lv_aload_n hx hb dL_changes_8 rfl (lv_at hl 1 rfl) ?_
  refine zc_pi (va_runV (As := []) (rest := []) ⟨hx, hb, hml, hown, hts⟩ (kX7_state l dC dI cI cJ cZ q pw co la vo cpar fr cdee use run nC tdue tlat twk nT edue elat ewk nE len cnt tin sp pe slp late srv hv av bd sh sc lt rule now st asl idl idn par div dee) (cwV 0 hts gL_changes_X7_state rfl rfl rfl (by decide +kernel) ⟨Nat.le_of_ble_eq_true rfl, Nat.le_of_ble_eq_true rfl⟩) (zqV hK hP [0, 1, 2, 3, 4, 5, 6, 7, 8, 9, 10, 11, 12, 13, 14, 15, 16, 17, 18, 19, 20, 21, 22, 23, 24, 25, 26, 27, 28] rfl 0 rfl rfl) rfl rfl hl.1 rfl (lv_room (Nat.le_of_ble_eq_true rfl)) dL_changes_9 ⟨Nat.le_of_ble_eq_true rfl, Nat.le_of_ble_eq_true rfl⟩) ?_
  refine lv_istore (lv' := [(5, .int (iI st)), (4, .int (iI (smZ y 8))), (0, .ref (q 0)), (1, .ref (q 29)), (2, .int (iI y)), (3, .int (iI od))]) hx hb dL_changes_12 hl (by decide) rfl (fun ls hl => ?_)
  refine lv_aload_n hx hb dL_changes_14 rfl (lv_at hl 2 rfl) ?_
  refine zc_pl (va_runV (As := []) (rest := []) ⟨hx, hb, hml, hown, hts⟩ (kX7_spent l dC dI cI cJ cZ q pw co la vo cpar fr cdee use run nC tdue tlat twk nT edue elat ewk nE len cnt tin sp pe slp late srv hv av bd sh sc lt rule now st asl idl idn par div dee) (cwV 0 hts gL_changes_X7_spent rfl rfl rfl (by decide +kernel) ⟨Nat.le_of_ble_eq_true rfl, Nat.le_of_ble_eq_true rfl⟩) (zqV hK hP [0, 1, 2, 3, 4, 5, 6, 7, 8, 9, 10, 11, 12, 13, 14, 15, 16, 17, 18, 19, 20, 21, 22, 23, 24, 25, 26, 27, 28] rfl 0 rfl rfl) rfl rfl hl.1 rfl (lv_room (Nat.le_of_ble_eq_true rfl)) dL_changes_15 ⟨Nat.le_of_ble_eq_true rfl, Nat.le_of_ble_eq_true rfl⟩) ?_
  refine lv_lstore (lv' := [(6, .long (lI sp)), (5, .int (iI st)), (4, .int (iI (smZ y 8))), (0, .ref (q 0)), (1, .ref (q 29)), (2, .int (iI y)), (3, .int (iI od))]) hx hb dL_changes_18 hl (by decide) rfl (fun ls hl => ?_)
  refine lv_aload_n hx hb dL_changes_20 rfl (lv_at hl 3 rfl) ?_
  refine zc_l (va_runS (As := [.ref (q 0)]) (rest := []) ⟨hx, hb, hml, hown, hts⟩ (kL_all l dC dI cI cJ cZ q pw co la vo cpar fr cdee use run nC tdue tlat twk nT edue elat ewk nE len cnt tin sp pe slp late srv hv av bd sh sc lt rule now st asl idl idn par div dee (by first | assumption | omega | exact b2i_01 _ | exact shr_r _ _) (by first | assumption | omega | exact b2i_01 _ | exact shr_r _ _) (by first | assumption | omega | exact b2i_01 _ | exact shr_r _ _) (by first | assumption | omega | exact b2i_01 _ | exact shr_r _ _) (by first | assumption | omega | exact b2i_01 _ | exact shr_r _ _) (by first | assumption | omega | exact b2i_01 _ | exact shr_r _ _) (by first | assumption | omega | exact b2i_01 _ | exact shr_r _ _) (by first | assumption | omega | exact b2i_01 _ | exact shr_r _ _) (by first | assumption | omega | exact b2i_01 _ | exact shr_r _ _) (by first | assumption | omega | exact b2i_01 _ | exact shr_r _ _) (by first | assumption | omega | exact b2i_01 _ | exact shr_r _ _) (by first | assumption | omega | exact b2i_01 _ | exact shr_r _ _) (by first | assumption | omega | exact b2i_01 _ | exact shr_r _ _) (by first | assumption | omega | exact b2i_01 _ | exact shr_r _ _) (by first | assumption | omega | exact b2i_01 _ | exact shr_r _ _) (by first | assumption | omega | exact b2i_01 _ | exact shr_r _ _) (by first | assumption | omega | exact b2i_01 _ | exact shr_r _ _) (by first | assumption | omega | exact b2i_01 _ | exact shr_r _ _) (by first | assumption | omega | exact b2i_01 _ | exact shr_r _ _) (by first | assumption | omega | exact b2i_01 _ | exact shr_r _ _) (by first | assumption | omega | exact b2i_01 _ | exact shr_r _ _) s.heap.size) (va_cwS 1 hts gL_changes_L_all rfl rfl rfl (by decide +kernel) ⟨Nat.le_of_ble_eq_true rfl, Nat.le_of_ble_eq_true rfl⟩) (zpS hK hP hD [0, 1, 2, 3, 4, 5, 6, 7, 8, 9, 10, 11, 12, 13, 14, 15, 16, 17, 18, 19, 20, 21, 22, 23, 24, 25, 26, 27, 28] rfl rfl) rfl rfl hl.1 rfl (lv_room (Nat.le_of_ble_eq_true rfl)) dL_changes_21 ⟨Nat.le_of_ble_eq_true rfl, Nat.le_of_ble_eq_true rfl⟩) hP hD hS hA [0, 1, 2, 3, 4, 5, 6, 7, 8, 9, 10, 11, 12, 13, 14, 15, 16, 17, 18, 19, 20, 21, 22, 23, 24, 25, 26, 27, 28] [29] rfl rfl rfl (by decide) (fun v_4 u_3 H locs r_2 hP hD hS => ?_)
  obtain ⟨runx_5, rfl⟩ : ∃ z, z = u_3 := ⟨_, rfl⟩
  obtain ⟨v_6, r_2⟩ := r_2
  refine ze_l v_6 ?_
  have r_2 : tfZ runx_5 := r_2
  have hP : va_P (dC, dI) vwCl (wPW cI cJ cZ q pw co la vo cpar fr cdee use runx_5 nC tdue tlat twk nT edue elat ewk nE len cnt tin sp pe slp late srv hv av bd sh sc lt rule now st asl idl idn par div dee w) H := hP.sub [1, 2, 3, 4, 5, 6, 7, 8, 9, 10, 11, 12, 13, 14, 15, 16, 17, 18, 19, 20, 21, 22, 23, 24, 25, 26, 27, 28, 29, 0] (z_fm rfl)
  have hD : va_D A (wPW cI cJ cZ q pw co la vo cpar fr cdee use runx_5 nC tdue tlat twk nT edue elat ewk nE len cnt tin sp pe slp late srv hv av bd sh sc lt rule now st asl idl idn par div dee w) := hD.sub [1, 2, 3, 4, 5, 6, 7, 8, 9, 10, 11, 12, 13, 14, 15, 16, 17, 18, 19, 20, 21, 22, 23, 24, 25, 26, 27, 28, 29, 0] (by decide) rfl
  have hrun9 := r_2
  have hI5 := lj_run hI hrun9
  refine lv_lstore (lv' := [(8, .long (lI (alZ pw co la vo use nC tdue tlat nT tin sp slp late srv av bd sh now st par dee))), (6, .long (lI sp)), (5, .int (iI st)), (4, .int (iI (smZ y 8))), (0, .ref (q 0)), (1, .ref (q 29)), (2, .int (iI y)), (3, .int (iI od))]) hx hb dL_changes_24 hl (by decide) rfl (fun ls hl => ?_)
  refine lv_aload_n hx hb dL_changes_26 rfl (lv_at hl 5 rfl) ?_
  refine lv_iconst (v := iI 0) hx hb dL_changes_27 rfl ?_
  refine za_ld hx hb hK hP 29 0 rfl rfl (by omega) (by omega) dL_changes_28 ?_
  refine ze_i (y := pw 0) (by exact hw0 _ (by omega) (by omega)) ?_
  refine lv_aload_n hx hb dL_changes_29 rfl (lv_at hl 5 rfl) ?_
  refine lv_bipush (v := iI 8) hx hb dL_changes_30 (by decide) ?_
  refine lv_iload hx hb dL_changes_32 (lv_at hl 2 rfl) ?_
  refine zi_add hx hb dL_changes_34 ?_
  refine za_ld hx hb hK hP 29 0 rfl rfl (by omega) (by omega) dL_changes_35 ?_
  refine ze_i (y := la st) (by exact hw8 _ (by omega) (by omega)) ?_
  refine zi_mul hx hb dL_changes_36 ?_
  refine lv_istore (lv' := [(10, .int (iI ((pw 0) * (la st)))), (8, .long (lI (alZ pw co la vo use nC tdue tlat nT tin sp slp late srv av bd sh now st par dee))), (6, .long (lI sp)), (5, .int (iI st)), (4, .int (iI (smZ y 8))), (0, .ref (q 0)), (1, .ref (q 29)), (2, .int (iI y)), (3, .int (iI od))]) hx hb dL_changes_37 hl (by decide) rfl (fun ls hl => ?_)
  refine lv_iload hx hb dL_changes_39 (lv_at hl 4 rfl) ?_
  refine lv_iconst (v := iI 2) hx hb dL_changes_41 rfl ?_
  refine zi_cge (tgt := 428) hx hb (by omega) (by decide) dL_changes_42 (by decide) (fun c_7 => ?_) (fun c_7 => ?_)
  · skip
    refine lv_iload hx hb dL_changes_428 (lv_at hl 4 rfl) ?_
    refine lv_iconst (v := iI 3) hx hb dL_changes_430 rfl ?_
    refine zi_cge (tgt := 553) hx hb (by omega) (by decide) dL_changes_431 (by decide) (fun c_8 => ?_) (fun c_8 => ?_)
    · skip
      refine lv_iload hx hb dL_changes_553 (lv_at hl 4 rfl) ?_
      refine lv_iconst (v := iI 5) hx hb dL_changes_555 rfl ?_
      refine zi_cge (tgt := 747) hx hb (by omega) (by decide) dL_changes_556 (by decide) (fun c_9 => ?_) (fun c_9 => ?_)
      · skip
        refine lv_iload hx hb dL_changes_747 (lv_at hl 4 rfl) ?_
        refine lv_bipush (v := iI 7) hx hb dL_changes_749 (by decide) ?_
        refine zi_cge (tgt := 873) hx hb (by omega) (by decide) dL_changes_751 (by decide) (fun c_10 => ?_) (fun c_10 => ?_)
        · skip
          have L891 : ∀ (cc : Int), (-1 ≤ cc ∧ cc ≤ 10) → ∀ (H : Heap) (locs : List Loc), va_P (dC, dI) vwCl (wPW cI cJ cZ q pw co la vo cpar fr cdee use runx_5 nC tdue tlat twk nT edue elat ewk nE len cnt tin sp pe slp late srv hv av bd sh sc lt rule now st asl idl idn par div dee w) H → va_D A (wPW cI cJ cZ q pw co la vo cpar fr cdee use runx_5 nC tdue tlat twk nT edue elat ewk nE len cnt tin sp pe slp late srv hv av bd sh sc lt rule now st asl idl idn par div dee w) → va_S A s.heap H locs → ∀ ls : Array Slot, lv_has ls 17 [(10, .int (iI ((pw 0) * (la st)))), (8, .long (lI (alZ pw co la vo use nC tdue tlat nT tin sp slp late srv av bd sh now st par dee))), (6, .long (lI sp)), (5, .int (iI st)), (4, .int (iI (smZ y 8))), (0, .ref (q 0)), (1, .ref (q 29)), (2, .int (iI y)), (3, .int (iI od))] → W p l e rmL_changes s m ([.ref (q 0), .ref (q 29), .int (iI y), .int (iI od)] : List Value).toArray below meth c H locs 0 0 Q (F0 m 891 ls [.int (iI cc)]) := by
            intro cc hcc H locs hP hD hS ls hl
            refine lv_istore (lv' := [(11, .int (iI cc)), (10, .int (iI ((pw 0) * (la st)))), (8, .long (lI (alZ pw co la vo use nC tdue tlat nT tin sp slp late srv av bd sh now st par dee))), (6, .long (lI sp)), (5, .int (iI st)), (4, .int (iI (smZ y 8))), (0, .ref (q 0)), (1, .ref (q 29)), (2, .int (iI y)), (3, .int (iI od))]) hx hb dL_changes_891 hl (by decide) rfl (fun ls hl => ?_)
            refine lv_aload_n hx hb dL_changes_893 rfl (lv_at hl 6 rfl) ?_
            refine lv_iconst (v := iI 3) hx hb dL_changes_894 rfl ?_
            refine lv_iload hx hb dL_changes_895 (lv_at hl 0 rfl) ?_
            refine lv_iconst (v := iI 0) hx hb dL_changes_897 rfl ?_
            refine lv_iconst (v := iI 0) hx hb dL_changes_898 rfl ?_
            by_cases c_11 : 0 ≤ cc ∧ cc < nC
            · skip
              have hu9 : use cc = 0 := by rw [show cc = 0 by omega]; exact hu0
              refine zc_i (vx_runSW (As := [.ref (q 0), .int (iI 3), .int (iI cc), .int (iI 0), .int (iI 0)]) (rest := []) ⟨hx, hb, hml, hown, hts⟩ (kL_sets_ok3 l dC dI cI cJ cZ q pw co la vo cpar fr cdee use runx_5 nC tdue tlat twk nT edue elat ewk nE len cnt tin sp pe slp late srv hv av bd sh sc lt rule now st asl idl idn par div dee cc (by first | assumption | omega | exact b2i_01 _ | exact shr_r _ _) (by first | assumption | omega | exact b2i_01 _ | exact shr_r _ _) (by first | assumption | omega | exact b2i_01 _ | exact shr_r _ _) (by first | assumption | omega | exact b2i_01 _ | exact shr_r _ _) (by first | assumption | omega | exact b2i_01 _ | exact shr_r _ _) (by first | assumption | omega | exact b2i_01 _ | exact shr_r _ _) (by first | assumption | omega | exact b2i_01 _ | exact shr_r _ _) (by first | assumption | omega | exact b2i_01 _ | exact shr_r _ _) (by first | assumption | omega | exact b2i_01 _ | exact shr_r _ _) (by first | assumption | omega | exact b2i_01 _ | exact shr_r _ _) (by first | assumption | omega | exact b2i_01 _ | exact shr_r _ _) H.size) (vx_cwSW 5 hts gL_changes_L_sets rfl rfl rfl (by decide +kernel) ⟨Nat.le_of_ble_eq_true rfl, Nat.le_of_ble_eq_true rfl⟩) (zpS hK hP hD [0, 1, 2, 3, 4, 5, 6, 7, 8, 9, 10, 11, 12, 13, 14, 15, 16, 17, 18, 19, 20, 21, 22, 23, 24, 25, 26, 27, 28] rfl rfl) rfl rfl hl.1 rfl (lv_room (Nat.le_of_ble_eq_true rfl)) dL_changes_899 ⟨Nat.le_of_ble_eq_true rfl, Nat.le_of_ble_eq_true rfl⟩) hP hD hS hA [0, 1, 2, 3, 4, 5, 6, 7, 8, 9, 10, 11, 12, 13, 14, 15, 16, 17, 18, 19, 20, 21, 22, 23, 24, 25, 26, 27, 28] [29] rfl rfl rfl (by decide) (fun v_14 u_13 H locs r_12 hP hD hS => ?_)
              obtain ⟨stx_15, spx_16, pex_17, idlx_18, idnx_19, lenx_20, cntx_21⟩ := u_13
              obtain ⟨v_22, r_12⟩ := r_12
              refine ze_i v_22 ?_
              have r_12 : (stx_15, spx_16, pex_17, idlx_18, idnx_19) = scF pw la st asl now sp pe idl idn ∧ idR lenx_20 cntx_21 idlx_18 idnx_19 := r_12
              have hP : va_P (dC, dI) vwCl (wPW cI cJ cZ q pw co la vo cpar fr cdee (uZ use cc (use cc + 1)) runx_5 nC tdue tlat twk nT edue elat ewk nE lenx_20 cntx_21 tin spx_16 pex_17 slp late srv hv av bd sh sc lt rule now stx_15 asl idlx_18 idnx_19 par div dee w) H := hP.sub [1, 2, 3, 4, 5, 6, 7, 8, 9, 10, 11, 12, 13, 14, 15, 16, 17, 18, 19, 20, 21, 22, 23, 24, 25, 26, 27, 28, 29, 0] (z_fm rfl)
              have hD : va_D A (wPW cI cJ cZ q pw co la vo cpar fr cdee (uZ use cc (use cc + 1)) runx_5 nC tdue tlat twk nT edue elat ewk nE lenx_20 cntx_21 tin spx_16 pex_17 slp late srv hv av bd sh sc lt rule now stx_15 asl idlx_18 idnx_19 par div dee w) := hD.sub [1, 2, 3, 4, 5, 6, 7, 8, 9, 10, 11, 12, 13, 14, 15, 16, 17, 18, 19, 20, 21, 22, 23, 24, 25, 26, 27, 28, 29, 0] (by decide) rfl
              obtain ⟨hsc9, hid9⟩ := r_12
              have hwk9 := sc_f hsc9
              have hI6 := lj_sc hI5 (by omega) hsc9 hid9
              have hu8 : uZ use cc (use cc + 1) cc = use cc + 1 := uZ_s _ _ _
              have huse8 : rgZ (uZ use cc (use cc + 1)) 8 9 := rgZ_u huse (by omega)
              refine lv_istore (lv' := [(12, .int (iI (use cc + 1))), (11, .int (iI cc)), (10, .int (iI ((pw 0) * (la st)))), (8, .long (lI (alZ pw co la vo use nC tdue tlat nT tin sp slp late srv av bd sh now st par dee))), (6, .long (lI sp)), (5, .int (iI st)), (4, .int (iI (smZ y 8))), (0, .ref (q 0)), (1, .ref (q 29)), (2, .int (iI y)), (3, .int (iI od))]) hx hb dL_changes_902 hl (by decide) rfl (fun ls hl => ?_)
              refine lv_iload hx hb dL_changes_904 (lv_at hl 0 rfl) ?_
              refine zi_fge (tgt := 939) hx hb (by omega) dL_changes_906 (by decide) (fun c_23 => ?_) (fun c_23 => ?_)
              · skip
                refine lv_aload_n hx hb dL_changes_939 rfl (lv_at hl 7 rfl) ?_
                refine lv_iload hx hb dL_changes_940 (lv_at hl 5 rfl) ?_
                refine lv_lload hx hb dL_changes_942 (lv_at hl 4 rfl) ?_
                refine lv_iload hx hb dL_changes_944 (lv_at hl 2 rfl) ?_
                refine zc_pi (va_runS (As := [.ref (q 0), .int (iI st), .long (lI sp), .int (iI ((pw 0) * (la st)))]) (rest := []) ⟨hx, hb, hml, hown, hts⟩ (kL_woke l dC dI cI cJ cZ q pw co la vo cpar fr cdee (uZ use cc (use cc + 1)) runx_5 nC tdue tlat twk nT edue elat ewk nE lenx_20 cntx_21 tin spx_16 pex_17 slp late srv hv av bd sh sc lt rule now stx_15 asl idlx_18 idnx_19 par div dee st sp ((pw 0) * (la st)) (hwk9.1) (hwk9.2) (by first | assumption | omega | exact b2i_01 _ | exact shr_r _ _) (by first | assumption | omega | exact b2i_01 _ | exact shr_r _ _)) (va_cwS 4 hts gL_changes_L_woke rfl rfl rfl (by decide +kernel) ⟨Nat.le_of_ble_eq_true rfl, Nat.le_of_ble_eq_true rfl⟩) (zqS hK hP [0, 1, 2, 3, 4, 5, 6, 7, 8, 9, 10, 11, 12, 13, 14, 15, 16, 17, 18, 19, 20, 21, 22, 23, 24, 25, 26, 27, 28] rfl) rfl rfl hl.1 rfl (lv_room (Nat.le_of_ble_eq_true rfl)) dL_changes_946 ⟨Nat.le_of_ble_eq_true rfl, Nat.le_of_ble_eq_true rfl⟩) ?_
                refine zi_feq (tgt := 981) hx hb (by decide) dL_changes_949 (by decide) (fun c_24 => ?_) (fun c_24 => ?_)
                · skip
                  exact absurd c_24 (by decide)
                · skip
                  refine lv_aload_n hx hb dL_changes_952 rfl (lv_at hl 7 rfl) ?_
                  refine lv_iload hx hb dL_changes_953 (lv_at hl 1 rfl) ?_
                  refine zc_i (va_runV (As := [.int (iI cc)]) (rest := []) ⟨hx, hb, hml, hown, hts⟩ (kX7_runs_ok l dC dI cI cJ cZ q pw co la vo cpar fr cdee (uZ use cc (use cc + 1)) runx_5 nC tdue tlat twk nT edue elat ewk nE lenx_20 cntx_21 tin spx_16 pex_17 slp late srv hv av bd sh sc lt rule now stx_15 asl idlx_18 idnx_19 par div dee cc (by first | assumption | omega | exact b2i_01 _ | exact shr_r _ _) (by first | assumption | omega | exact b2i_01 _ | exact shr_r _ _) (by first | assumption | omega | exact b2i_01 _ | exact shr_r _ _) (by first | assumption | omega | exact b2i_01 _ | exact shr_r _ _) (by first | assumption | omega | exact b2i_01 _ | exact shr_r _ _) (by first | assumption | omega | exact b2i_01 _ | exact shr_r _ _) H.size) (cwV 1 hts gL_changes_X7_runs rfl rfl rfl (by decide +kernel) ⟨Nat.le_of_ble_eq_true rfl, Nat.le_of_ble_eq_true rfl⟩) (zpV hK hP hD [0, 1, 2, 3, 4, 5, 6, 7, 8, 9, 10, 11, 12, 13, 14, 15, 16, 17, 18, 19, 20, 21, 22, 23, 24, 25, 26, 27, 28] rfl rfl 0 rfl rfl) rfl rfl hl.1 rfl (lv_room (Nat.le_of_ble_eq_true rfl)) dL_changes_955 ⟨Nat.le_of_ble_eq_true rfl, Nat.le_of_ble_eq_true rfl⟩) hP hD hS hA [0, 1, 2, 3, 4, 5, 6, 7, 8, 9, 10, 11, 12, 13, 14, 15, 16, 17, 18, 19, 20, 21, 22, 23, 24, 25, 26, 27, 28] [29] rfl rfl rfl (by decide) (fun v_27 u_26 H locs r_25 hP hD hS => ?_)
                  refine ze_i r_25 ?_
                  have hP : va_P (dC, dI) vwCl (wPW cI cJ cZ q pw co la vo cpar fr cdee (uZ use cc (use cc + 1)) (rnZ cpar (nC - 1) (r0Z (uZ use cc (use cc + 1)) nC runx_5)) nC tdue tlat twk nT edue elat ewk nE lenx_20 cntx_21 tin spx_16 pex_17 slp late srv hv av bd sh sc lt rule now stx_15 asl idlx_18 idnx_19 par div dee w) H := hP.sub [1, 2, 3, 4, 5, 6, 7, 8, 9, 10, 11, 12, 13, 14, 15, 16, 17, 18, 19, 20, 21, 22, 23, 24, 25, 26, 27, 28, 29, 0] (z_fm rfl)
                  have hD : va_D A (wPW cI cJ cZ q pw co la vo cpar fr cdee (uZ use cc (use cc + 1)) (rnZ cpar (nC - 1) (r0Z (uZ use cc (use cc + 1)) nC runx_5)) nC tdue tlat twk nT edue elat ewk nE lenx_20 cntx_21 tin spx_16 pex_17 slp late srv hv av bd sh sc lt rule now stx_15 asl idlx_18 idnx_19 par div dee w) := hD.sub [1, 2, 3, 4, 5, 6, 7, 8, 9, 10, 11, 12, 13, 14, 15, 16, 17, 18, 19, 20, 21, 22, 23, 24, 25, 26, 27, 28, 29, 0] (by decide) rfl
                  refine zb_feq (tgt := 981) hx hb dL_changes_958 (by decide) (fun c_28 => ?_) (fun c_28 => ?_)
                  · skip
                    exact absurd c_28 (by exact fun z => z (rn_one hnC1 (by omega) (by omega)))
                  · skip
                    refine lv_aload_n hx hb dL_changes_961 rfl (lv_at hl 7 rfl) ?_
                    refine lv_iconst (v := iI 4) hx hb dL_changes_962 rfl ?_
                    refine lv_iload hx hb dL_changes_963 (lv_at hl 1 rfl) ?_
                    refine lv_iconst (v := iI 0) hx hb dL_changes_965 rfl ?_
                    refine lv_iconst (v := iI 0) hx hb dL_changes_966 rfl ?_
                    refine zc_i (vx_runSW (As := [.ref (q 0), .int (iI 4), .int (iI cc), .int (iI 0), .int (iI 0)]) (rest := []) ⟨hx, hb, hml, hown, hts⟩ (kL_sets_ok4 l dC dI cI cJ cZ q pw co la vo cpar fr cdee (uZ use cc (use cc + 1)) (rnZ cpar (nC - 1) (r0Z (uZ use cc (use cc + 1)) nC runx_5)) nC tdue tlat twk nT edue elat ewk nE lenx_20 cntx_21 tin spx_16 pex_17 slp late srv hv av bd sh sc lt rule now stx_15 asl idlx_18 idnx_19 par div dee cc (by first | assumption | omega | exact b2i_01 _ | exact shr_r _ _) (by first | assumption | omega | exact b2i_01 _ | exact shr_r _ _) (by first | assumption | omega | exact b2i_01 _ | exact shr_r _ _) (by first | assumption | omega | exact b2i_01 _ | exact shr_r _ _) (by first | assumption | omega | exact b2i_01 _ | exact shr_r _ _) (by first | assumption | omega | exact b2i_01 _ | exact shr_r _ _) (by first | assumption | omega | exact b2i_01 _ | exact shr_r _ _) (by first | assumption | omega | exact b2i_01 _ | exact shr_r _ _) (by first | assumption | omega | exact b2i_01 _ | exact shr_r _ _) (by first | assumption | omega | exact b2i_01 _ | exact shr_r _ _) (by first | assumption | omega | exact b2i_01 _ | exact shr_r _ _) H.size) (vx_cwSW 5 hts gL_changes_L_sets rfl rfl rfl (by decide +kernel) ⟨Nat.le_of_ble_eq_true rfl, Nat.le_of_ble_eq_true rfl⟩) (zpS hK hP hD [0, 1, 2, 3, 4, 5, 6, 7, 8, 9, 10, 11, 12, 13, 14, 15, 16, 17, 18, 19, 20, 21, 22, 23, 24, 25, 26, 27, 28] rfl rfl) rfl rfl hl.1 rfl (lv_room (Nat.le_of_ble_eq_true rfl)) dL_changes_967 ⟨Nat.le_of_ble_eq_true rfl, Nat.le_of_ble_eq_true rfl⟩) hP hD hS hA [0, 1, 2, 3, 4, 5, 6, 7, 8, 9, 10, 11, 12, 13, 14, 15, 16, 17, 18, 19, 20, 21, 22, 23, 24, 25, 26, 27, 28] [29] rfl rfl rfl (by decide) (fun v_31 u_30 H locs r_29 hP hD hS => ?_)
                    obtain ⟨stx_32, spx_33, pex_34, idlx_35, idnx_36, lenx_37, cntx_38⟩ := u_30
                    obtain ⟨v_39, r_29⟩ := r_29
                    refine ze_i v_39 ?_
                    have r_29 : (stx_32, spx_33, pex_34, idlx_35, idnx_36) = scF pw la stx_15 asl now spx_16 pex_17 idlx_18 idnx_19 ∧ idR lenx_37 cntx_38 idlx_35 idnx_36 := r_29
                    have hP : va_P (dC, dI) vwCl (wPW cI cJ cZ q pw co la vo cpar fr cdee (uZ (uZ use cc (use cc + 1)) cc ((uZ use cc (use cc + 1)) cc - 1)) (rnZ cpar (nC - 1) (r0Z (uZ use cc (use cc + 1)) nC runx_5)) nC tdue tlat twk nT edue elat ewk nE lenx_37 cntx_38 tin spx_33 pex_34 slp late srv hv av bd sh sc lt rule now stx_32 asl idlx_35 idnx_36 par div dee w) H := hP.sub [1, 2, 3, 4, 5, 6, 7, 8, 9, 10, 11, 12, 13, 14, 15, 16, 17, 18, 19, 20, 21, 22, 23, 24, 25, 26, 27, 28, 29, 0] (z_fm rfl)
                    have hD : va_D A (wPW cI cJ cZ q pw co la vo cpar fr cdee (uZ (uZ use cc (use cc + 1)) cc ((uZ use cc (use cc + 1)) cc - 1)) (rnZ cpar (nC - 1) (r0Z (uZ use cc (use cc + 1)) nC runx_5)) nC tdue tlat twk nT edue elat ewk nE lenx_37 cntx_38 tin spx_33 pex_34 slp late srv hv av bd sh sc lt rule now stx_32 asl idlx_35 idnx_36 par div dee w) := hD.sub [1, 2, 3, 4, 5, 6, 7, 8, 9, 10, 11, 12, 13, 14, 15, 16, 17, 18, 19, 20, 21, 22, 23, 24, 25, 26, 27, 28, 29, 0] (by decide) rfl
                    obtain ⟨hsc7, hid7⟩ := r_29
                    have hI7 := lj_mono (K2 := K + 200) (lj_sc (lj_run hI6 (show tfZ ((rnZ cpar (nC - 1) (r0Z (uZ use cc (use cc + 1)) nC runx_5))) from rn_t (r0_t hrun9))) (by omega) hsc7 hid7) (by omega)
                    have hus : uZ (uZ use cc (use cc + 1)) cc (uZ use cc (use cc + 1) cc - 1) = use := by rw [hu8, show use cc + 1 - 1 = use cc by omega]; exact use_back _ _ _
                    rw [hus] at hP hD
                    refine lv_iload hx hb dL_changes_970 (lv_at hl 0 rfl) ?_
                    refine lv_iconst (v := iI 1) hx hb dL_changes_972 rfl ?_
                    refine zi_sub hx hb dL_changes_973 ?_
                    refine zi_sameN (tgt := 981) hx hb (by rw [hu8]) dL_changes_974 (by decide) ?_
                    refine lv_iconst (v := iI 1) hx hb dL_changes_977 rfl ?_
                    refine lv_goto (tgt := 982) hx hb dL_changes_978 (by decide) ?_
                    subst hQ
                    refine W.widen (k := 1) (n := 6) (by decide) (by decide) ?_
                    exact zret_z (W1 := fun u9 : (Int → Int) × (Int → Int) × (Int → Int) × (Int → Int) × (Int → Int) × Int × Int × Int × (Int → Int) × Int × (Int → Int) × Int × Int × (Int → Int) => wPW cI cJ cZ q (u9.1) (u9.2.1) (u9.2.2.1) (u9.2.2.2.1) cpar fr cdee use (u9.2.2.2.2.1) nC tdue tlat twk nT edue elat ewk nE (u9.2.2.2.2.2.2.2.2.2.2.1) (u9.2.2.2.2.2.2.2.2.2.2.2.1) tin (u9.2.2.2.2.2.2.1) (u9.2.2.2.2.2.2.2.1) slp late srv hv av bd sh sc lt (u9.2.2.2.2.2.2.2.2.2.2.2.2.1) now (u9.2.2.2.2.2.1) asl (u9.2.2.2.2.2.2.2.2.1) (u9.2.2.2.2.2.2.2.2.2.1) par div dee (u9.2.2.2.2.2.2.2.2.2.2.2.2.2)) (pw, co, la, vo, rnZ cpar (nC - 1) (r0Z (uZ use cc (use cc + 1)) nC runx_5), stx_32, spx_33, pex_34, idlx_35, idnx_36, lenx_37, cntx_38, rule, w) hx hb hr hP hD hS hlocks dL_changes_982 (by first | decide | omega) (by exact ⟨rfl, hI7⟩)
              · skip
                exact absurd c_23 (by omega)
            · skip
              refine zc_i (vx_runSW (As := [.ref (q 0), .int (iI 3), .int (iI cc), .int (iI 0), .int (iI 0)]) (rest := []) ⟨hx, hb, hml, hown, hts⟩ (kL_sets_bad3 l dC dI cI cJ cZ q pw co la vo cpar fr cdee use runx_5 nC tdue tlat twk nT edue elat ewk nE len cnt tin sp pe slp late srv hv av bd sh sc lt rule now st asl idl idn par div dee cc (by first | assumption | omega | exact b2i_01 _ | exact shr_r _ _) (by first | assumption | omega | exact b2i_01 _ | exact shr_r _ _) (by first | assumption | omega | exact b2i_01 _ | exact shr_r _ _) (by first | assumption | omega | exact b2i_01 _ | exact shr_r _ _) (by first | assumption | omega | exact b2i_01 _ | exact shr_r _ _) (by first | assumption | omega | exact b2i_01 _ | exact shr_r _ _) (by first | assumption | omega | exact b2i_01 _ | exact shr_r _ _) (by first | assumption | omega | exact b2i_01 _ | exact shr_r _ _) (by first | assumption | omega | exact b2i_01 _ | exact shr_r _ _) (by first | assumption | omega | exact b2i_01 _ | exact shr_r _ _) (by first | assumption | omega | exact b2i_01 _ | exact shr_r _ _) htr H.size) (vx_cwSW 5 hts gL_changes_L_sets rfl rfl rfl (by decide +kernel) ⟨Nat.le_of_ble_eq_true rfl, Nat.le_of_ble_eq_true rfl⟩) (zyS hY hX hS hA hK hP hD [0, 1, 2, 3, 4, 5, 6, 7, 8, 9, 10, 11, 12, 13, 14, 15, 16, 17, 18, 19, 20, 21, 22, 23, 24, 25, 26, 27, 28] rfl rfl) rfl rfl hl.1 rfl (lv_room (Nat.le_of_ble_eq_true rfl)) dL_changes_899 ⟨Nat.le_of_ble_eq_true rfl, Nat.le_of_ble_eq_true rfl⟩) hP hD hS hA [0, 1, 2, 3, 4, 5, 6, 7, 8, 9, 10, 11, 12, 13, 14, 15, 16, 17, 18, 19, 20, 21, 22, 23, 24, 25, 26, 27, 28] [29] rfl rfl rfl (by decide) (fun v_42 u_41 H locs r_40 hP hD hS => ?_)
              refine ze_i r_40 ?_
              have hP : va_P (dC, dI) vwCl (wPW cI cJ cZ q pw co la vo cpar fr cdee use runx_5 nC tdue tlat twk nT edue elat ewk nE len cnt tin sp pe slp late srv hv av bd sh sc lt rule now st asl idl idn par div dee w) H := hP.sub [1, 2, 3, 4, 5, 6, 7, 8, 9, 10, 11, 12, 13, 14, 15, 16, 17, 18, 19, 20, 21, 22, 23, 24, 25, 26, 27, 28, 29, 0] (z_fm rfl)
              have hD : va_D A (wPW cI cJ cZ q pw co la vo cpar fr cdee use runx_5 nC tdue tlat twk nT edue elat ewk nE len cnt tin sp pe slp late srv hv av bd sh sc lt rule now st asl idl idn par div dee w) := hD.sub [1, 2, 3, 4, 5, 6, 7, 8, 9, 10, 11, 12, 13, 14, 15, 16, 17, 18, 19, 20, 21, 22, 23, 24, 25, 26, 27, 28, 29, 0] (by decide) rfl
              refine lv_istore (lv' := [(12, .int (iI (-81))), (11, .int (iI cc)), (10, .int (iI ((pw 0) * (la st)))), (8, .long (lI (alZ pw co la vo use nC tdue tlat nT tin sp slp late srv av bd sh now st par dee))), (6, .long (lI sp)), (5, .int (iI st)), (4, .int (iI (smZ y 8))), (0, .ref (q 0)), (1, .ref (q 29)), (2, .int (iI y)), (3, .int (iI od))]) hx hb dL_changes_902 hl (by decide) rfl (fun ls hl => ?_)
              refine lv_iload hx hb dL_changes_904 (lv_at hl 0 rfl) ?_
              refine zi_fge (tgt := 939) hx hb (by decide) dL_changes_906 (by decide) (fun c_43 => ?_) (fun c_43 => ?_)
              · skip
                exact absurd c_43 (by decide)
              · skip
                refine lv_iload hx hb dL_changes_909 (lv_at hl 0 rfl) ?_
                refine lv_bipush (v := iI (-81)) hx hb dL_changes_911 (by decide) ?_
                refine zi_ceq (tgt := 923) hx hb (by decide) (by decide) dL_changes_913 (by decide) (fun c_44 => ?_) (fun c_44 => ?_)
                · skip
                  refine lv_aload_n hx hb dL_changes_923 rfl (lv_at hl 7 rfl) ?_
                  refine zc_l (va_runS (As := [.ref (q 0)]) (rest := []) ⟨hx, hb, hml, hown, hts⟩ (kL_all l dC dI cI cJ cZ q pw co la vo cpar fr cdee use runx_5 nC tdue tlat twk nT edue elat ewk nE len cnt tin sp pe slp late srv hv av bd sh sc lt rule now st asl idl idn par div dee (by first | assumption | omega | exact b2i_01 _ | exact shr_r _ _) (by first | assumption | omega | exact b2i_01 _ | exact shr_r _ _) (by first | assumption | omega | exact b2i_01 _ | exact shr_r _ _) (by first | assumption | omega | exact b2i_01 _ | exact shr_r _ _) (by first | assumption | omega | exact b2i_01 _ | exact shr_r _ _) (by first | assumption | omega | exact b2i_01 _ | exact shr_r _ _) (by first | assumption | omega | exact b2i_01 _ | exact shr_r _ _) (by first | assumption | omega | exact b2i_01 _ | exact shr_r _ _) (by first | assumption | omega | exact b2i_01 _ | exact shr_r _ _) (by first | assumption | omega | exact b2i_01 _ | exact shr_r _ _) (by first | assumption | omega | exact b2i_01 _ | exact shr_r _ _) (by first | assumption | omega | exact b2i_01 _ | exact shr_r _ _) (by first | assumption | omega | exact b2i_01 _ | exact shr_r _ _) (by first | assumption | omega | exact b2i_01 _ | exact shr_r _ _) (by first | assumption | omega | exact b2i_01 _ | exact shr_r _ _) (by first | assumption | omega | exact b2i_01 _ | exact shr_r _ _) (by first | assumption | omega | exact b2i_01 _ | exact shr_r _ _) (by first | assumption | omega | exact b2i_01 _ | exact shr_r _ _) (by first | assumption | omega | exact b2i_01 _ | exact shr_r _ _) (by first | assumption | omega | exact b2i_01 _ | exact shr_r _ _) (by first | assumption | omega | exact b2i_01 _ | exact shr_r _ _) H.size) (va_cwS 1 hts gL_changes_L_all rfl rfl rfl (by decide +kernel) ⟨Nat.le_of_ble_eq_true rfl, Nat.le_of_ble_eq_true rfl⟩) (zpS hK hP hD [0, 1, 2, 3, 4, 5, 6, 7, 8, 9, 10, 11, 12, 13, 14, 15, 16, 17, 18, 19, 20, 21, 22, 23, 24, 25, 26, 27, 28] rfl rfl) rfl rfl hl.1 rfl (lv_room (Nat.le_of_ble_eq_true rfl)) dL_changes_924 ⟨Nat.le_of_ble_eq_true rfl, Nat.le_of_ble_eq_true rfl⟩) hP hD hS hA [0, 1, 2, 3, 4, 5, 6, 7, 8, 9, 10, 11, 12, 13, 14, 15, 16, 17, 18, 19, 20, 21, 22, 23, 24, 25, 26, 27, 28] [29] rfl rfl rfl (by decide) (fun v_47 u_46 H locs r_45 hP hD hS => ?_)
                  obtain ⟨runx_48, rfl⟩ : ∃ z, z = u_46 := ⟨_, rfl⟩
                  obtain ⟨v_49, r_45⟩ := r_45
                  refine ze_l v_49 ?_
                  have r_45 : tfZ runx_48 := r_45
                  have hP : va_P (dC, dI) vwCl (wPW cI cJ cZ q pw co la vo cpar fr cdee use runx_48 nC tdue tlat twk nT edue elat ewk nE len cnt tin sp pe slp late srv hv av bd sh sc lt rule now st asl idl idn par div dee w) H := hP.sub [1, 2, 3, 4, 5, 6, 7, 8, 9, 10, 11, 12, 13, 14, 15, 16, 17, 18, 19, 20, 21, 22, 23, 24, 25, 26, 27, 28, 29, 0] (z_fm rfl)
                  have hD : va_D A (wPW cI cJ cZ q pw co la vo cpar fr cdee use runx_48 nC tdue tlat twk nT edue elat ewk nE len cnt tin sp pe slp late srv hv av bd sh sc lt rule now st asl idl idn par div dee w) := hD.sub [1, 2, 3, 4, 5, 6, 7, 8, 9, 10, 11, 12, 13, 14, 15, 16, 17, 18, 19, 20, 21, 22, 23, 24, 25, 26, 27, 28, 29, 0] (by decide) rfl
                  have hrun8 := r_45
                  refine lv_lload hx hb dL_changes_927 (lv_at hl 3 rfl) ?_
                  refine zl_sameN (tgt := 937) hx hb (by rfl) dL_changes_929 dL_changes_930 (by decide) ?_
                  refine lv_iconst (v := iI 1) hx hb dL_changes_933 rfl ?_
                  refine lv_goto (tgt := 938) hx hb dL_changes_934 (by decide) ?_
                  subst hQ
                  refine W.widen (k := 1) (n := 6) (by decide) (by decide) ?_
                  exact zret_z (W1 := fun u9 : (Int → Int) × (Int → Int) × (Int → Int) × (Int → Int) × (Int → Int) × Int × Int × Int × (Int → Int) × Int × (Int → Int) × Int × Int × (Int → Int) => wPW cI cJ cZ q (u9.1) (u9.2.1) (u9.2.2.1) (u9.2.2.2.1) cpar fr cdee use (u9.2.2.2.2.1) nC tdue tlat twk nT edue elat ewk nE (u9.2.2.2.2.2.2.2.2.2.2.1) (u9.2.2.2.2.2.2.2.2.2.2.2.1) tin (u9.2.2.2.2.2.2.1) (u9.2.2.2.2.2.2.2.1) slp late srv hv av bd sh sc lt (u9.2.2.2.2.2.2.2.2.2.2.2.2.1) now (u9.2.2.2.2.2.1) asl (u9.2.2.2.2.2.2.2.2.1) (u9.2.2.2.2.2.2.2.2.2.1) par div dee (u9.2.2.2.2.2.2.2.2.2.2.2.2.2)) (pw, co, la, vo, runx_48, st, sp, pe, idl, idn, len, cnt, rule, w) hx hb hr hP hD hS hlocks dL_changes_938 (by first | decide | omega) (by exact ⟨rfl, lj_mono (K2 := K + 200) (lj_run hI hrun8) (by omega)⟩)
                · skip
                  exact absurd c_44 (by decide)
          refine lv_iload_n hx hb dL_changes_873 rfl (lv_at hl 8 rfl) ?_
          refine zi_feq (tgt := 890) hx hb (by omega) dL_changes_874 (by decide) (fun c_50 => ?_) (fun c_50 => ?_)
          · skip
            refine lv_iconst (v := iI 0) hx hb dL_changes_890 rfl ?_
            exact L891 0 (by omega) H locs hP hD hS ls (lv_sub hl [0, 1, 2, 3, 4, 5, 6, 7, 8] rfl)
          · skip
            refine lv_iload_n hx hb dL_changes_877 rfl (lv_at hl 7 rfl) ?_
            refine lv_iconst (v := iI 3) hx hb dL_changes_878 rfl ?_
            refine zi_shr hx hb dL_changes_879 ?_
            refine lv_bipush (v := iI 11) hx hb dL_changes_880 (by decide) ?_
            refine zc_pi (va_runS (As := [.int (iI (shrZ y 3)), .int (iI 11)]) (rest := []) ⟨hx, hb, hml, hown, hts⟩ (kL_some l dC dI cI cJ cZ (shrZ y 3) 11 (by first | assumption | omega | exact b2i_01 _ | exact shr_r _ _) (by first | assumption | omega | exact b2i_01 _ | exact shr_r _ _)) (va_cwS 2 hts gL_changes_L_some rfl rfl rfl (by decide +kernel) ⟨Nat.le_of_ble_eq_true rfl, Nat.le_of_ble_eq_true rfl⟩) (zqS hK hP [] rfl) rfl rfl hl.1 rfl (lv_room (Nat.le_of_ble_eq_true rfl)) dL_changes_882 ⟨Nat.le_of_ble_eq_true rfl, Nat.le_of_ble_eq_true rfl⟩) ?_
            have e_51 := sm_r (shrZ y 3) (show (0 : Int) < 11 by decide)
            refine lv_iconst (v := iI 1) hx hb dL_changes_885 rfl ?_
            refine zi_sub hx hb dL_changes_886 ?_
            refine lv_goto (tgt := 891) hx hb dL_changes_887 (by decide) ?_
            exact L891 ((smZ (shrZ y 3) 11) - 1) (by omega) H locs hP hD hS ls (lv_sub hl [0, 1, 2, 3, 4, 5, 6, 7, 8] rfl)
        · skip
          have L778 : ∀ (rr : Int), (zR rr) → ∀ (H : Heap) (locs : List Loc), va_P (dC, dI) vwCl (wPW cI cJ cZ q pw co la vo cpar fr cdee use runx_5 nC tdue tlat twk nT edue elat ewk nE len cnt tin sp pe slp late srv hv av bd sh sc lt rule now st asl idl idn par div dee w) H → va_D A (wPW cI cJ cZ q pw co la vo cpar fr cdee use runx_5 nC tdue tlat twk nT edue elat ewk nE len cnt tin sp pe slp late srv hv av bd sh sc lt rule now st asl idl idn par div dee w) → va_S A s.heap H locs → ∀ ls : Array Slot, lv_has ls 17 [(10, .int (iI ((pw 0) * (la st)))), (8, .long (lI (alZ pw co la vo use nC tdue tlat nT tin sp slp late srv av bd sh now st par dee))), (6, .long (lI sp)), (5, .int (iI st)), (4, .int (iI (smZ y 8))), (0, .ref (q 0)), (1, .ref (q 29)), (2, .int (iI y)), (3, .int (iI od))] → W p l e rmL_changes s m ([.ref (q 0), .ref (q 29), .int (iI y), .int (iI od)] : List Value).toArray below meth c H locs 0 0 Q (F0 m 778 ls [.int (iI rr)]) := by
            intro rr hrr H locs hP hD hS ls hl
            refine lv_istore (lv' := [(11, .int (iI rr)), (10, .int (iI ((pw 0) * (la st)))), (8, .long (lI (alZ pw co la vo use nC tdue tlat nT tin sp slp late srv av bd sh now st par dee))), (6, .long (lI sp)), (5, .int (iI st)), (4, .int (iI (smZ y 8))), (0, .ref (q 0)), (1, .ref (q 29)), (2, .int (iI y)), (3, .int (iI od))]) hx hb dL_changes_778 hl (by decide) rfl (fun ls hl => ?_)
            refine lv_aload_n hx hb dL_changes_780 rfl (lv_at hl 6 rfl) ?_
            refine lv_bipush (v := iI 7) hx hb dL_changes_781 (by decide) ?_
            refine lv_iload hx hb dL_changes_783 (lv_at hl 0 rfl) ?_
            refine lv_iconst (v := iI 0) hx hb dL_changes_785 rfl ?_
            refine lv_iconst (v := iI 0) hx hb dL_changes_786 rfl ?_
            by_cases c_52 : 0 ≤ rr ∧ rr ≤ 2
            · skip
              refine zc_i (vx_runSW (As := [.ref (q 0), .int (iI 7), .int (iI rr), .int (iI 0), .int (iI 0)]) (rest := []) ⟨hx, hb, hml, hown, hts⟩ (kL_sets_ok7 l dC dI cI cJ cZ q pw co la vo cpar fr cdee use runx_5 nC tdue tlat twk nT edue elat ewk nE len cnt tin sp pe slp late srv hv av bd sh sc lt rule now st asl idl idn par div dee rr (by first | assumption | omega | exact b2i_01 _ | exact shr_r _ _) (by first | assumption | omega | exact b2i_01 _ | exact shr_r _ _) (by first | assumption | omega | exact b2i_01 _ | exact shr_r _ _) (by first | assumption | omega | exact b2i_01 _ | exact shr_r _ _) (by first | assumption | omega | exact b2i_01 _ | exact shr_r _ _) (by first | assumption | omega | exact b2i_01 _ | exact shr_r _ _) (by first | assumption | omega | exact b2i_01 _ | exact shr_r _ _) (by first | assumption | omega | exact b2i_01 _ | exact shr_r _ _) (by first | assumption | omega | exact b2i_01 _ | exact shr_r _ _) H.size) (vx_cwSW 5 hts gL_changes_L_sets rfl rfl rfl (by decide +kernel) ⟨Nat.le_of_ble_eq_true rfl, Nat.le_of_ble_eq_true rfl⟩) (zpS hK hP hD [0, 1, 2, 3, 4, 5, 6, 7, 8, 9, 10, 11, 12, 13, 14, 15, 16, 17, 18, 19, 20, 21, 22, 23, 24, 25, 26, 27, 28] rfl rfl) rfl rfl hl.1 rfl (lv_room (Nat.le_of_ble_eq_true rfl)) dL_changes_787 ⟨Nat.le_of_ble_eq_true rfl, Nat.le_of_ble_eq_true rfl⟩) hP hD hS hA [0, 1, 2, 3, 4, 5, 6, 7, 8, 9, 10, 11, 12, 13, 14, 15, 16, 17, 18, 19, 20, 21, 22, 23, 24, 25, 26, 27, 28] [29] rfl rfl rfl (by decide) (fun v_55 u_54 H locs r_53 hP hD hS => ?_)
              obtain ⟨stx_56, spx_57, pex_58, idlx_59, idnx_60, lenx_61, cntx_62⟩ := u_54
              obtain ⟨v_63, r_53⟩ := r_53
              refine ze_i v_63 ?_
              have r_53 : (stx_56, spx_57, pex_58, idlx_59, idnx_60) = scF pw la st asl now sp pe idl idn ∧ idR lenx_61 cntx_62 idlx_59 idnx_60 := r_53
              have hP : va_P (dC, dI) vwCl (wPW cI cJ cZ q pw co la vo cpar fr cdee use runx_5 nC tdue tlat twk nT edue elat ewk nE lenx_61 cntx_62 tin spx_57 pex_58 slp late srv hv av bd sh sc lt rr now stx_56 asl idlx_59 idnx_60 par div dee w) H := hP.sub [1, 2, 3, 4, 5, 6, 7, 8, 9, 10, 11, 12, 13, 14, 15, 16, 17, 18, 19, 20, 21, 22, 23, 24, 25, 26, 27, 28, 29, 0] (z_fm rfl)
              have hD : va_D A (wPW cI cJ cZ q pw co la vo cpar fr cdee use runx_5 nC tdue tlat twk nT edue elat ewk nE lenx_61 cntx_62 tin spx_57 pex_58 slp late srv hv av bd sh sc lt rr now stx_56 asl idlx_59 idnx_60 par div dee w) := hD.sub [1, 2, 3, 4, 5, 6, 7, 8, 9, 10, 11, 12, 13, 14, 15, 16, 17, 18, 19, 20, 21, 22, 23, 24, 25, 26, 27, 28, 29, 0] (by decide) rfl
              obtain ⟨hsc9, hid9⟩ := r_53
              have hwk9 := sc_f hsc9
              have hI6 := lj_sc hI5 (by omega) hsc9 hid9
              have hI8 := lj_mono (K2 := K + 200) (lj_rule hI6 (x1 := rr) (by omega)) (by omega)
              refine lv_istore (lv' := [(12, .int (iI rule)), (11, .int (iI rr)), (10, .int (iI ((pw 0) * (la st)))), (8, .long (lI (alZ pw co la vo use nC tdue tlat nT tin sp slp late srv av bd sh now st par dee))), (6, .long (lI sp)), (5, .int (iI st)), (4, .int (iI (smZ y 8))), (0, .ref (q 0)), (1, .ref (q 29)), (2, .int (iI y)), (3, .int (iI od))]) hx hb dL_changes_790 hl (by decide) rfl (fun ls hl => ?_)
              refine lv_iload hx hb dL_changes_792 (lv_at hl 1 rfl) ?_
              refine zi_flt (tgt := 803) hx hb (by omega) dL_changes_794 (by decide) (fun c_64 => ?_) (fun c_64 => ?_)
              · skip
                exact absurd c_64 (by omega)
              · skip
                refine lv_iload hx hb dL_changes_797 (lv_at hl 1 rfl) ?_
                refine lv_iconst (v := iI 2) hx hb dL_changes_799 rfl ?_
                refine zi_cle (tgt := 828) hx hb (by omega) (by decide) dL_changes_800 (by decide) (fun c_65 => ?_) (fun c_65 => ?_)
                · skip
                  refine lv_iload hx hb dL_changes_828 (lv_at hl 0 rfl) ?_
                  refine zi_flt (tgt := 871) hx hb (by omega) dL_changes_830 (by decide) (fun c_66 => ?_) (fun c_66 => ?_)
                  · skip
                    exact absurd c_66 (by omega)
                  · skip
                    refine lv_iload hx hb dL_changes_833 (lv_at hl 0 rfl) ?_
                    refine lv_iconst (v := iI 3) hx hb dL_changes_835 rfl ?_
                    refine zi_cge (tgt := 871) hx hb (by omega) (by decide) dL_changes_836 (by decide) (fun c_67 => ?_) (fun c_67 => ?_)
                    · skip
                      exact absurd c_67 (by omega)
                    · skip
                      refine lv_aload_n hx hb dL_changes_839 rfl (lv_at hl 7 rfl) ?_
                      refine lv_iload hx hb dL_changes_840 (lv_at hl 5 rfl) ?_
                      refine lv_lload hx hb dL_changes_842 (lv_at hl 4 rfl) ?_
                      refine lv_iload hx hb dL_changes_844 (lv_at hl 2 rfl) ?_
                      refine zc_pi (va_runS (As := [.ref (q 0), .int (iI st), .long (lI sp), .int (iI ((pw 0) * (la st)))]) (rest := []) ⟨hx, hb, hml, hown, hts⟩ (kL_woke l dC dI cI cJ cZ q pw co la vo cpar fr cdee use runx_5 nC tdue tlat twk nT edue elat ewk nE lenx_61 cntx_62 tin spx_57 pex_58 slp late srv hv av bd sh sc lt rr now stx_56 asl idlx_59 idnx_60 par div dee st sp ((pw 0) * (la st)) (hwk9.1) (hwk9.2) (by first | assumption | omega | exact b2i_01 _ | exact shr_r _ _) (by first | assumption | omega | exact b2i_01 _ | exact shr_r _ _)) (va_cwS 4 hts gL_changes_L_woke rfl rfl rfl (by decide +kernel) ⟨Nat.le_of_ble_eq_true rfl, Nat.le_of_ble_eq_true rfl⟩) (zqS hK hP [0, 1, 2, 3, 4, 5, 6, 7, 8, 9, 10, 11, 12, 13, 14, 15, 16, 17, 18, 19, 20, 21, 22, 23, 24, 25, 26, 27, 28] rfl) rfl rfl hl.1 rfl (lv_room (Nat.le_of_ble_eq_true rfl)) dL_changes_846 ⟨Nat.le_of_ble_eq_true rfl, Nat.le_of_ble_eq_true rfl⟩) ?_
                      refine zi_feq (tgt := 871) hx hb (by decide) dL_changes_849 (by decide) (fun c_68 => ?_) (fun c_68 => ?_)
                      · skip
                        exact absurd c_68 (by decide)
                      · skip
                        refine lv_aload_n hx hb dL_changes_852 rfl (lv_at hl 7 rfl) ?_
                        refine lv_bipush (v := iI 7) hx hb dL_changes_853 (by decide) ?_
                        refine lv_iload hx hb dL_changes_855 (lv_at hl 1 rfl) ?_
                        refine lv_iconst (v := iI 0) hx hb dL_changes_857 rfl ?_
                        refine lv_iconst (v := iI 0) hx hb dL_changes_858 rfl ?_
                        refine zc_i (vx_runSW (As := [.ref (q 0), .int (iI 7), .int (iI rr), .int (iI 0), .int (iI 0)]) (rest := []) ⟨hx, hb, hml, hown, hts⟩ (kL_sets_ok7 l dC dI cI cJ cZ q pw co la vo cpar fr cdee use runx_5 nC tdue tlat twk nT edue elat ewk nE lenx_61 cntx_62 tin spx_57 pex_58 slp late srv hv av bd sh sc lt rr now stx_56 asl idlx_59 idnx_60 par div dee rr (by first | assumption | omega | exact b2i_01 _ | exact shr_r _ _) (by first | assumption | omega | exact b2i_01 _ | exact shr_r _ _) (by first | assumption | omega | exact b2i_01 _ | exact shr_r _ _) (by first | assumption | omega | exact b2i_01 _ | exact shr_r _ _) (by first | assumption | omega | exact b2i_01 _ | exact shr_r _ _) (by first | assumption | omega | exact b2i_01 _ | exact shr_r _ _) (by first | assumption | omega | exact b2i_01 _ | exact shr_r _ _) (by first | assumption | omega | exact b2i_01 _ | exact shr_r _ _) (by first | assumption | omega | exact b2i_01 _ | exact shr_r _ _) H.size) (vx_cwSW 5 hts gL_changes_L_sets rfl rfl rfl (by decide +kernel) ⟨Nat.le_of_ble_eq_true rfl, Nat.le_of_ble_eq_true rfl⟩) (zpS hK hP hD [0, 1, 2, 3, 4, 5, 6, 7, 8, 9, 10, 11, 12, 13, 14, 15, 16, 17, 18, 19, 20, 21, 22, 23, 24, 25, 26, 27, 28] rfl rfl) rfl rfl hl.1 rfl (lv_room (Nat.le_of_ble_eq_true rfl)) dL_changes_859 ⟨Nat.le_of_ble_eq_true rfl, Nat.le_of_ble_eq_true rfl⟩) hP hD hS hA [0, 1, 2, 3, 4, 5, 6, 7, 8, 9, 10, 11, 12, 13, 14, 15, 16, 17, 18, 19, 20, 21, 22, 23, 24, 25, 26, 27, 28] [29] rfl rfl rfl (by decide) (fun v_71 u_70 H locs r_69 hP hD hS => ?_)
                        obtain ⟨stx_72, spx_73, pex_74, idlx_75, idnx_76, lenx_77, cntx_78⟩ := u_70
                        obtain ⟨v_79, r_69⟩ := r_69
                        refine ze_i v_79 ?_
                        have r_69 : (stx_72, spx_73, pex_74, idlx_75, idnx_76) = scF pw la stx_56 asl now spx_57 pex_58 idlx_59 idnx_60 ∧ idR lenx_77 cntx_78 idlx_75 idnx_76 := r_69
                        have hP : va_P (dC, dI) vwCl (wPW cI cJ cZ q pw co la vo cpar fr cdee use runx_5 nC tdue tlat twk nT edue elat ewk nE lenx_77 cntx_78 tin spx_73 pex_74 slp late srv hv av bd sh sc lt rr now stx_72 asl idlx_75 idnx_76 par div dee w) H := hP.sub [1, 2, 3, 4, 5, 6, 7, 8, 9, 10, 11, 12, 13, 14, 15, 16, 17, 18, 19, 20, 21, 22, 23, 24, 25, 26, 27, 28, 29, 0] (z_fm rfl)
                        have hD : va_D A (wPW cI cJ cZ q pw co la vo cpar fr cdee use runx_5 nC tdue tlat twk nT edue elat ewk nE lenx_77 cntx_78 tin spx_73 pex_74 slp late srv hv av bd sh sc lt rr now stx_72 asl idlx_75 idnx_76 par div dee w) := hD.sub [1, 2, 3, 4, 5, 6, 7, 8, 9, 10, 11, 12, 13, 14, 15, 16, 17, 18, 19, 20, 21, 22, 23, 24, 25, 26, 27, 28, 29, 0] (by decide) rfl
                        obtain ⟨hsc7, hid7⟩ := r_69
                        have hI7 := lj_rule (lj_sc hI8 (by omega) hsc7 hid7) (x1 := rr) (by omega)
                        refine lv_iload hx hb dL_changes_862 (lv_at hl 1 rfl) ?_
                        refine zi_sameN (tgt := 871) hx hb (by rfl) dL_changes_864 (by decide) ?_
                        refine lv_iconst (v := iI 1) hx hb dL_changes_867 rfl ?_
                        refine lv_goto (tgt := 872) hx hb dL_changes_868 (by decide) ?_
                        subst hQ
                        refine W.widen (k := 1) (n := 6) (by decide) (by decide) ?_
                        exact zret_z (W1 := fun u9 : (Int → Int) × (Int → Int) × (Int → Int) × (Int → Int) × (Int → Int) × Int × Int × Int × (Int → Int) × Int × (Int → Int) × Int × Int × (Int → Int) => wPW cI cJ cZ q (u9.1) (u9.2.1) (u9.2.2.1) (u9.2.2.2.1) cpar fr cdee use (u9.2.2.2.2.1) nC tdue tlat twk nT edue elat ewk nE (u9.2.2.2.2.2.2.2.2.2.2.1) (u9.2.2.2.2.2.2.2.2.2.2.2.1) tin (u9.2.2.2.2.2.2.1) (u9.2.2.2.2.2.2.2.1) slp late srv hv av bd sh sc lt (u9.2.2.2.2.2.2.2.2.2.2.2.2.1) now (u9.2.2.2.2.2.1) asl (u9.2.2.2.2.2.2.2.2.1) (u9.2.2.2.2.2.2.2.2.2.1) par div dee (u9.2.2.2.2.2.2.2.2.2.2.2.2.2)) (pw, co, la, vo, runx_5, stx_72, spx_73, pex_74, idlx_75, idnx_76, lenx_77, cntx_78, rr, w) hx hb hr hP hD hS hlocks dL_changes_872 (by first | decide | omega) (by first | exact ⟨rfl, hI7⟩ | exact ⟨rfl, lj_mono (K2 := K + 200) (lj_run hI hrun8) (by omega)⟩)
                · skip
                  exact absurd c_65 (by omega)
            · skip
              refine zc_i (vx_runSW (As := [.ref (q 0), .int (iI 7), .int (iI rr), .int (iI 0), .int (iI 0)]) (rest := []) ⟨hx, hb, hml, hown, hts⟩ (kL_sets_bad7 l dC dI cI cJ cZ q pw co la vo cpar fr cdee use runx_5 nC tdue tlat twk nT edue elat ewk nE len cnt tin sp pe slp late srv hv av bd sh sc lt rule now st asl idl idn par div dee rr (by first | assumption | omega | exact b2i_01 _ | exact shr_r _ _) (by first | assumption | omega | exact b2i_01 _ | exact shr_r _ _) (by first | assumption | omega | exact b2i_01 _ | exact shr_r _ _) (by first | assumption | omega | exact b2i_01 _ | exact shr_r _ _) (by first | assumption | omega | exact b2i_01 _ | exact shr_r _ _) (by first | assumption | omega | exact b2i_01 _ | exact shr_r _ _) (by first | assumption | omega | exact b2i_01 _ | exact shr_r _ _) (by first | assumption | omega | exact b2i_01 _ | exact shr_r _ _) (by first | assumption | omega | exact b2i_01 _ | exact shr_r _ _) htr H.size) (vx_cwSW 5 hts gL_changes_L_sets rfl rfl rfl (by decide +kernel) ⟨Nat.le_of_ble_eq_true rfl, Nat.le_of_ble_eq_true rfl⟩) (zyS hY hX hS hA hK hP hD [0, 1, 2, 3, 4, 5, 6, 7, 8, 9, 10, 11, 12, 13, 14, 15, 16, 17, 18, 19, 20, 21, 22, 23, 24, 25, 26, 27, 28] rfl rfl) rfl rfl hl.1 rfl (lv_room (Nat.le_of_ble_eq_true rfl)) dL_changes_787 ⟨Nat.le_of_ble_eq_true rfl, Nat.le_of_ble_eq_true rfl⟩) hP hD hS hA [0, 1, 2, 3, 4, 5, 6, 7, 8, 9, 10, 11, 12, 13, 14, 15, 16, 17, 18, 19, 20, 21, 22, 23, 24, 25, 26, 27, 28] [29] rfl rfl rfl (by decide) (fun v_82 u_81 H locs r_80 hP hD hS => ?_)
              refine ze_i r_80 ?_
              have hP : va_P (dC, dI) vwCl (wPW cI cJ cZ q pw co la vo cpar fr cdee use runx_5 nC tdue tlat twk nT edue elat ewk nE len cnt tin sp pe slp late srv hv av bd sh sc lt rule now st asl idl idn par div dee w) H := hP.sub [1, 2, 3, 4, 5, 6, 7, 8, 9, 10, 11, 12, 13, 14, 15, 16, 17, 18, 19, 20, 21, 22, 23, 24, 25, 26, 27, 28, 29, 0] (z_fm rfl)
              have hD : va_D A (wPW cI cJ cZ q pw co la vo cpar fr cdee use runx_5 nC tdue tlat twk nT edue elat ewk nE len cnt tin sp pe slp late srv hv av bd sh sc lt rule now st asl idl idn par div dee w) := hD.sub [1, 2, 3, 4, 5, 6, 7, 8, 9, 10, 11, 12, 13, 14, 15, 16, 17, 18, 19, 20, 21, 22, 23, 24, 25, 26, 27, 28, 29, 0] (by decide) rfl
              refine lv_istore (lv' := [(12, .int (iI (-82))), (11, .int (iI rr)), (10, .int (iI ((pw 0) * (la st)))), (8, .long (lI (alZ pw co la vo use nC tdue tlat nT tin sp slp late srv av bd sh now st par dee))), (6, .long (lI sp)), (5, .int (iI st)), (4, .int (iI (smZ y 8))), (0, .ref (q 0)), (1, .ref (q 29)), (2, .int (iI y)), (3, .int (iI od))]) hx hb dL_changes_790 hl (by decide) rfl (fun ls hl => ?_)
              refine lv_iload hx hb dL_changes_792 (lv_at hl 1 rfl) ?_
              refine zi_flt (tgt := 803) hx hb (by omega) dL_changes_794 (by decide) (fun c_83 => ?_) (fun c_83 => ?_)
              · skip
                refine lv_iload hx hb dL_changes_803 (lv_at hl 0 rfl) ?_
                refine lv_bipush (v := iI (-82)) hx hb dL_changes_805 (by decide) ?_
                refine zi_cne (tgt := 824) hx hb (by decide) (by decide) dL_changes_807 (by decide) (fun c_84 => ?_) (fun c_84 => ?_)
                · skip
                  exact absurd c_84 (by decide)
                · skip
                  refine lv_aload_n hx hb dL_changes_810 rfl (lv_at hl 7 rfl) ?_
                  refine zc_l (va_runS (As := [.ref (q 0)]) (rest := []) ⟨hx, hb, hml, hown, hts⟩ (kL_all l dC dI cI cJ cZ q pw co la vo cpar fr cdee use runx_5 nC tdue tlat twk nT edue elat ewk nE len cnt tin sp pe slp late srv hv av bd sh sc lt rule now st asl idl idn par div dee (by first | assumption | omega | exact b2i_01 _ | exact shr_r _ _) (by first | assumption | omega | exact b2i_01 _ | exact shr_r _ _) (by first | assumption | omega | exact b2i_01 _ | exact shr_r _ _) (by first | assumption | omega | exact b2i_01 _ | exact shr_r _ _) (by first | assumption | omega | exact b2i_01 _ | exact shr_r _ _) (by first | assumption | omega | exact b2i_01 _ | exact shr_r _ _) (by first | assumption | omega | exact b2i_01 _ | exact shr_r _ _) (by first | assumption | omega | exact b2i_01 _ | exact shr_r _ _) (by first | assumption | omega | exact b2i_01 _ | exact shr_r _ _) (by first | assumption | omega | exact b2i_01 _ | exact shr_r _ _) (by first | assumption | omega | exact b2i_01 _ | exact shr_r _ _) (by first | assumption | omega | exact b2i_01 _ | exact shr_r _ _) (by first | assumption | omega | exact b2i_01 _ | exact shr_r _ _) (by first | assumption | omega | exact b2i_01 _ | exact shr_r _ _) (by first | assumption | omega | exact b2i_01 _ | exact shr_r _ _) (by first | assumption | omega | exact b2i_01 _ | exact shr_r _ _) (by first | assumption | omega | exact b2i_01 _ | exact shr_r _ _) (by first | assumption | omega | exact b2i_01 _ | exact shr_r _ _) (by first | assumption | omega | exact b2i_01 _ | exact shr_r _ _) (by first | assumption | omega | exact b2i_01 _ | exact shr_r _ _) (by first | assumption | omega | exact b2i_01 _ | exact shr_r _ _) H.size) (va_cwS 1 hts gL_changes_L_all rfl rfl rfl (by decide +kernel) ⟨Nat.le_of_ble_eq_true rfl, Nat.le_of_ble_eq_true rfl⟩) (zpS hK hP hD [0, 1, 2, 3, 4, 5, 6, 7, 8, 9, 10, 11, 12, 13, 14, 15, 16, 17, 18, 19, 20, 21, 22, 23, 24, 25, 26, 27, 28] rfl rfl) rfl rfl hl.1 rfl (lv_room (Nat.le_of_ble_eq_true rfl)) dL_changes_811 ⟨Nat.le_of_ble_eq_true rfl, Nat.le_of_ble_eq_true rfl⟩) hP hD hS hA [0, 1, 2, 3, 4, 5, 6, 7, 8, 9, 10, 11, 12, 13, 14, 15, 16, 17, 18, 19, 20, 21, 22, 23, 24, 25, 26, 27, 28] [29] rfl rfl rfl (by decide) (fun v_87 u_86 H locs r_85 hP hD hS => ?_)
                  obtain ⟨runx_88, rfl⟩ : ∃ z, z = u_86 := ⟨_, rfl⟩
                  obtain ⟨v_89, r_85⟩ := r_85
                  refine ze_l v_89 ?_
                  have r_85 : tfZ runx_88 := r_85
                  have hP : va_P (dC, dI) vwCl (wPW cI cJ cZ q pw co la vo cpar fr cdee use runx_88 nC tdue tlat twk nT edue elat ewk nE len cnt tin sp pe slp late srv hv av bd sh sc lt rule now st asl idl idn par div dee w) H := hP.sub [1, 2, 3, 4, 5, 6, 7, 8, 9, 10, 11, 12, 13, 14, 15, 16, 17, 18, 19, 20, 21, 22, 23, 24, 25, 26, 27, 28, 29, 0] (z_fm rfl)
                  have hD : va_D A (wPW cI cJ cZ q pw co la vo cpar fr cdee use runx_88 nC tdue tlat twk nT edue elat ewk nE len cnt tin sp pe slp late srv hv av bd sh sc lt rule now st asl idl idn par div dee w) := hD.sub [1, 2, 3, 4, 5, 6, 7, 8, 9, 10, 11, 12, 13, 14, 15, 16, 17, 18, 19, 20, 21, 22, 23, 24, 25, 26, 27, 28, 29, 0] (by decide) rfl
                  have hrun8 := r_85
                  refine lv_lload hx hb dL_changes_814 (lv_at hl 3 rfl) ?_
                  refine zl_sameN (tgt := 824) hx hb (by rfl) dL_changes_816 dL_changes_817 (by decide) ?_
                  refine lv_iconst (v := iI 1) hx hb dL_changes_820 rfl ?_
                  refine lv_goto (tgt := 872) hx hb dL_changes_821 (by decide) ?_
                  subst hQ
                  refine W.widen (k := 1) (n := 6) (by decide) (by decide) ?_
                  exact zret_z (W1 := fun u9 : (Int → Int) × (Int → Int) × (Int → Int) × (Int → Int) × (Int → Int) × Int × Int × Int × (Int → Int) × Int × (Int → Int) × Int × Int × (Int → Int) => wPW cI cJ cZ q (u9.1) (u9.2.1) (u9.2.2.1) (u9.2.2.2.1) cpar fr cdee use (u9.2.2.2.2.1) nC tdue tlat twk nT edue elat ewk nE (u9.2.2.2.2.2.2.2.2.2.2.1) (u9.2.2.2.2.2.2.2.2.2.2.2.1) tin (u9.2.2.2.2.2.2.1) (u9.2.2.2.2.2.2.2.1) slp late srv hv av bd sh sc lt (u9.2.2.2.2.2.2.2.2.2.2.2.2.1) now (u9.2.2.2.2.2.1) asl (u9.2.2.2.2.2.2.2.2.1) (u9.2.2.2.2.2.2.2.2.2.1) par div dee (u9.2.2.2.2.2.2.2.2.2.2.2.2.2)) (pw, co, la, vo, runx_88, st, sp, pe, idl, idn, len, cnt, rule, w) hx hb hr hP hD hS hlocks dL_changes_872 (by first | decide | omega) (by first | exact ⟨rfl, hI7⟩ | exact ⟨rfl, lj_mono (K2 := K + 200) (lj_run hI hrun8) (by omega)⟩)
              · skip
                refine lv_iload hx hb dL_changes_797 (lv_at hl 1 rfl) ?_
                refine lv_iconst (v := iI 2) hx hb dL_changes_799 rfl ?_
                refine zi_cle (tgt := 828) hx hb (by omega) (by decide) dL_changes_800 (by decide) (fun c_90 => ?_) (fun c_90 => ?_)
                · skip
                  exact absurd c_90 (by omega)
                · skip
                  refine lv_iload hx hb dL_changes_803 (lv_at hl 0 rfl) ?_
                  refine lv_bipush (v := iI (-82)) hx hb dL_changes_805 (by decide) ?_
                  refine zi_cne (tgt := 824) hx hb (by decide) (by decide) dL_changes_807 (by decide) (fun c_91 => ?_) (fun c_91 => ?_)
                  · skip
                    exact absurd c_91 (by decide)
                  · skip
                    refine lv_aload_n hx hb dL_changes_810 rfl (lv_at hl 7 rfl) ?_
                    refine zc_l (va_runS (As := [.ref (q 0)]) (rest := []) ⟨hx, hb, hml, hown, hts⟩ (kL_all l dC dI cI cJ cZ q pw co la vo cpar fr cdee use runx_5 nC tdue tlat twk nT edue elat ewk nE len cnt tin sp pe slp late srv hv av bd sh sc lt rule now st asl idl idn par div dee (by first | assumption | omega | exact b2i_01 _ | exact shr_r _ _) (by first | assumption | omega | exact b2i_01 _ | exact shr_r _ _) (by first | assumption | omega | exact b2i_01 _ | exact shr_r _ _) (by first | assumption | omega | exact b2i_01 _ | exact shr_r _ _) (by first | assumption | omega | exact b2i_01 _ | exact shr_r _ _) (by first | assumption | omega | exact b2i_01 _ | exact shr_r _ _) (by first | assumption | omega | exact b2i_01 _ | exact shr_r _ _) (by first | assumption | omega | exact b2i_01 _ | exact shr_r _ _) (by first | assumption | omega | exact b2i_01 _ | exact shr_r _ _) (by first | assumption | omega | exact b2i_01 _ | exact shr_r _ _) (by first | assumption | omega | exact b2i_01 _ | exact shr_r _ _) (by first | assumption | omega | exact b2i_01 _ | exact shr_r _ _) (by first | assumption | omega | exact b2i_01 _ | exact shr_r _ _) (by first | assumption | omega | exact b2i_01 _ | exact shr_r _ _) (by first | assumption | omega | exact b2i_01 _ | exact shr_r _ _) (by first | assumption | omega | exact b2i_01 _ | exact shr_r _ _) (by first | assumption | omega | exact b2i_01 _ | exact shr_r _ _) (by first | assumption | omega | exact b2i_01 _ | exact shr_r _ _) (by first | assumption | omega | exact b2i_01 _ | exact shr_r _ _) (by first | assumption | omega | exact b2i_01 _ | exact shr_r _ _) (by first | assumption | omega | exact b2i_01 _ | exact shr_r _ _) H.size) (va_cwS 1 hts gL_changes_L_all rfl rfl rfl (by decide +kernel) ⟨Nat.le_of_ble_eq_true rfl, Nat.le_of_ble_eq_true rfl⟩) (zpS hK hP hD [0, 1, 2, 3, 4, 5, 6, 7, 8, 9, 10, 11, 12, 13, 14, 15, 16, 17, 18, 19, 20, 21, 22, 23, 24, 25, 26, 27, 28] rfl rfl) rfl rfl hl.1 rfl (lv_room (Nat.le_of_ble_eq_true rfl)) dL_changes_811 ⟨Nat.le_of_ble_eq_true rfl, Nat.le_of_ble_eq_true rfl⟩) hP hD hS hA [0, 1, 2, 3, 4, 5, 6, 7, 8, 9, 10, 11, 12, 13, 14, 15, 16, 17, 18, 19, 20, 21, 22, 23, 24, 25, 26, 27, 28] [29] rfl rfl rfl (by decide) (fun v_94 u_93 H locs r_92 hP hD hS => ?_)
                    obtain ⟨runx_95, rfl⟩ : ∃ z, z = u_93 := ⟨_, rfl⟩
                    obtain ⟨v_96, r_92⟩ := r_92
                    refine ze_l v_96 ?_
                    have r_92 : tfZ runx_95 := r_92
                    have hP : va_P (dC, dI) vwCl (wPW cI cJ cZ q pw co la vo cpar fr cdee use runx_95 nC tdue tlat twk nT edue elat ewk nE len cnt tin sp pe slp late srv hv av bd sh sc lt rule now st asl idl idn par div dee w) H := hP.sub [1, 2, 3, 4, 5, 6, 7, 8, 9, 10, 11, 12, 13, 14, 15, 16, 17, 18, 19, 20, 21, 22, 23, 24, 25, 26, 27, 28, 29, 0] (z_fm rfl)
                    have hD : va_D A (wPW cI cJ cZ q pw co la vo cpar fr cdee use runx_95 nC tdue tlat twk nT edue elat ewk nE len cnt tin sp pe slp late srv hv av bd sh sc lt rule now st asl idl idn par div dee w) := hD.sub [1, 2, 3, 4, 5, 6, 7, 8, 9, 10, 11, 12, 13, 14, 15, 16, 17, 18, 19, 20, 21, 22, 23, 24, 25, 26, 27, 28, 29, 0] (by decide) rfl
                    have hrun8 := r_92
                    refine lv_lload hx hb dL_changes_814 (lv_at hl 3 rfl) ?_
                    refine zl_sameN (tgt := 824) hx hb (by rfl) dL_changes_816 dL_changes_817 (by decide) ?_
                    refine lv_iconst (v := iI 1) hx hb dL_changes_820 rfl ?_
                    refine lv_goto (tgt := 872) hx hb dL_changes_821 (by decide) ?_
                    subst hQ
                    refine W.widen (k := 1) (n := 6) (by decide) (by decide) ?_
                    exact zret_z (W1 := fun u9 : (Int → Int) × (Int → Int) × (Int → Int) × (Int → Int) × (Int → Int) × Int × Int × Int × (Int → Int) × Int × (Int → Int) × Int × Int × (Int → Int) => wPW cI cJ cZ q (u9.1) (u9.2.1) (u9.2.2.1) (u9.2.2.2.1) cpar fr cdee use (u9.2.2.2.2.1) nC tdue tlat twk nT edue elat ewk nE (u9.2.2.2.2.2.2.2.2.2.2.1) (u9.2.2.2.2.2.2.2.2.2.2.2.1) tin (u9.2.2.2.2.2.2.1) (u9.2.2.2.2.2.2.2.1) slp late srv hv av bd sh sc lt (u9.2.2.2.2.2.2.2.2.2.2.2.2.1) now (u9.2.2.2.2.2.1) asl (u9.2.2.2.2.2.2.2.2.1) (u9.2.2.2.2.2.2.2.2.2.1) par div dee (u9.2.2.2.2.2.2.2.2.2.2.2.2.2)) (pw, co, la, vo, runx_95, st, sp, pe, idl, idn, len, cnt, rule, w) hx hb hr hP hD hS hlocks dL_changes_872 (by first | decide | omega) (by first | exact ⟨rfl, hI7⟩ | exact ⟨rfl, lj_mono (K2 := K + 200) (lj_run hI hrun8) (by omega)⟩)
          refine lv_iload_n hx hb dL_changes_754 rfl (lv_at hl 8 rfl) ?_
          refine zi_feq (tgt := 771) hx hb (by omega) dL_changes_755 (by decide) (fun c_97 => ?_) (fun c_97 => ?_)
          · skip
            refine lv_iload_n hx hb dL_changes_771 rfl (lv_at hl 7 rfl) ?_
            refine lv_iconst (v := iI 3) hx hb dL_changes_772 rfl ?_
            refine zi_shr hx hb dL_changes_773 ?_
            refine lv_iconst (v := iI 3) hx hb dL_changes_774 rfl ?_
            refine zc_pi (va_runS (As := [.int (iI (shrZ y 3)), .int (iI 3)]) (rest := []) ⟨hx, hb, hml, hown, hts⟩ (kL_some l dC dI cI cJ cZ (shrZ y 3) 3 (by first | assumption | omega | exact b2i_01 _ | exact shr_r _ _) (by first | assumption | omega | exact b2i_01 _ | exact shr_r _ _)) (va_cwS 2 hts gL_changes_L_some rfl rfl rfl (by decide +kernel) ⟨Nat.le_of_ble_eq_true rfl, Nat.le_of_ble_eq_true rfl⟩) (zqS hK hP [] rfl) rfl rfl hl.1 rfl (lv_room (Nat.le_of_ble_eq_true rfl)) dL_changes_775 ⟨Nat.le_of_ble_eq_true rfl, Nat.le_of_ble_eq_true rfl⟩) ?_
            have e_98 := sm_r (shrZ y 3) (show (0 : Int) < 3 by decide)
            exact L778 (smZ (shrZ y 3) 3) (by omega) H locs hP hD hS ls (lv_sub hl [0, 1, 2, 3, 4, 5, 6, 7, 8] rfl)
          · skip
            refine lv_iload_n hx hb dL_changes_758 rfl (lv_at hl 7 rfl) ?_
            refine lv_iconst (v := iI 3) hx hb dL_changes_759 rfl ?_
            refine zi_shr hx hb dL_changes_760 ?_
            refine lv_bipush (v := iI 6) hx hb dL_changes_761 (by decide) ?_
            refine zc_pi (va_runS (As := [.int (iI (shrZ y 3)), .int (iI 6)]) (rest := []) ⟨hx, hb, hml, hown, hts⟩ (kL_some l dC dI cI cJ cZ (shrZ y 3) 6 (by first | assumption | omega | exact b2i_01 _ | exact shr_r _ _) (by first | assumption | omega | exact b2i_01 _ | exact shr_r _ _)) (va_cwS 2 hts gL_changes_L_some rfl rfl rfl (by decide +kernel) ⟨Nat.le_of_ble_eq_true rfl, Nat.le_of_ble_eq_true rfl⟩) (zqS hK hP [] rfl) rfl rfl hl.1 rfl (lv_room (Nat.le_of_ble_eq_true rfl)) dL_changes_763 ⟨Nat.le_of_ble_eq_true rfl, Nat.le_of_ble_eq_true rfl⟩) ?_
            have e_99 := sm_r (shrZ y 3) (show (0 : Int) < 6 by decide)
            refine lv_iconst (v := iI 1) hx hb dL_changes_766 rfl ?_
            refine zi_sub hx hb dL_changes_767 ?_
            refine lv_goto (tgt := 778) hx hb dL_changes_768 (by decide) ?_
            exact L778 ((smZ (shrZ y 3) 6) - 1) (by omega) H locs hP hD hS ls (lv_sub hl [0, 1, 2, 3, 4, 5, 6, 7, 8] rfl)
      · skip
        have L584 : ∀ (kk : Int), (zR kk) → ∀ (H : Heap) (locs : List Loc), va_P (dC, dI) vwCl (wPW cI cJ cZ q pw co la vo cpar fr cdee use runx_5 nC tdue tlat twk nT edue elat ewk nE len cnt tin sp pe slp late srv hv av bd sh sc lt rule now st asl idl idn par div dee w) H → va_D A (wPW cI cJ cZ q pw co la vo cpar fr cdee use runx_5 nC tdue tlat twk nT edue elat ewk nE len cnt tin sp pe slp late srv hv av bd sh sc lt rule now st asl idl idn par div dee w) → va_S A s.heap H locs → ∀ ls : Array Slot, lv_has ls 17 [(10, .int (iI ((pw 0) * (la st)))), (8, .long (lI (alZ pw co la vo use nC tdue tlat nT tin sp slp late srv av bd sh now st par dee))), (6, .long (lI sp)), (5, .int (iI st)), (4, .int (iI (smZ y 8))), (0, .ref (q 0)), (1, .ref (q 29)), (2, .int (iI y)), (3, .int (iI od))] → W p l e rmL_changes s m ([.ref (q 0), .ref (q 29), .int (iI y), .int (iI od)] : List Value).toArray below meth c H locs 0 0 Q (F0 m 584 ls [.int (iI kk)]) := by
          intro kk hkk H locs hP hD hS ls hl
          refine lv_istore (lv' := [(11, .int (iI kk)), (10, .int (iI ((pw 0) * (la st)))), (8, .long (lI (alZ pw co la vo use nC tdue tlat nT tin sp slp late srv av bd sh now st par dee))), (6, .long (lI sp)), (5, .int (iI st)), (4, .int (iI (smZ y 8))), (0, .ref (q 0)), (1, .ref (q 29)), (2, .int (iI y)), (3, .int (iI od))]) hx hb dL_changes_584 hl (by decide) rfl (fun ls hl => ?_)
          have L612 : ∀ (vv : Int), (zR vv) → ∀ (H : Heap) (locs : List Loc), va_P (dC, dI) vwCl (wPW cI cJ cZ q pw co la vo cpar fr cdee use runx_5 nC tdue tlat twk nT edue elat ewk nE len cnt tin sp pe slp late srv hv av bd sh sc lt rule now st asl idl idn par div dee w) H → va_D A (wPW cI cJ cZ q pw co la vo cpar fr cdee use runx_5 nC tdue tlat twk nT edue elat ewk nE len cnt tin sp pe slp late srv hv av bd sh sc lt rule now st asl idl idn par div dee w) → va_S A s.heap H locs → ∀ ls : Array Slot, lv_has ls 17 [(11, .int (iI kk)), (10, .int (iI ((pw 0) * (la st)))), (8, .long (lI (alZ pw co la vo use nC tdue tlat nT tin sp slp late srv av bd sh now st par dee))), (6, .long (lI sp)), (5, .int (iI st)), (4, .int (iI (smZ y 8))), (0, .ref (q 0)), (1, .ref (q 29)), (2, .int (iI y)), (3, .int (iI od))] → W p l e rmL_changes s m ([.ref (q 0), .ref (q 29), .int (iI y), .int (iI od)] : List Value).toArray below meth c H locs 0 0 Q (F0 m 612 ls [.int (iI vv)]) := by
            intro vv hvv H locs hP hD hS ls hl
            refine lv_istore (lv' := [(12, .int (iI vv)), (11, .int (iI kk)), (10, .int (iI ((pw 0) * (la st)))), (8, .long (lI (alZ pw co la vo use nC tdue tlat nT tin sp slp late srv av bd sh now st par dee))), (6, .long (lI sp)), (5, .int (iI st)), (4, .int (iI (smZ y 8))), (0, .ref (q 0)), (1, .ref (q 29)), (2, .int (iI y)), (3, .int (iI od))]) hx hb dL_changes_612 hl (by decide) rfl (fun ls hl => ?_)
            refine lv_aload_n hx hb dL_changes_614 rfl (lv_at hl 7 rfl) ?_
            refine lv_iconst (v := iI 1) hx hb dL_changes_615 rfl ?_
            refine lv_iload hx hb dL_changes_616 (lv_at hl 1 rfl) ?_
            refine lv_iload hx hb dL_changes_618 (lv_at hl 0 rfl) ?_
            refine lv_iconst (v := iI 0) hx hb dL_changes_620 rfl ?_
            by_cases c_100 : (0 ≤ kk ∧ kk ≤ 5) ∧ (0 ≤ vv ∧ vv ≤ 3)
            · skip
              have hvk := hvo kk (by omega) (by omega)
              refine zc_i (vx_runSW (As := [.ref (q 0), .int (iI 1), .int (iI kk), .int (iI vv), .int (iI 0)]) (rest := []) ⟨hx, hb, hml, hown, hts⟩ (kL_sets_ok1 l dC dI cI cJ cZ q pw co la vo cpar fr cdee use runx_5 nC tdue tlat twk nT edue elat ewk nE len cnt tin sp pe slp late srv hv av bd sh sc lt rule now st asl idl idn par div dee kk vv (by first | assumption | omega | exact b2i_01 _ | exact shr_r _ _) (by first | assumption | omega | exact b2i_01 _ | exact shr_r _ _) (by first | assumption | omega | exact b2i_01 _ | exact shr_r _ _) (by first | assumption | omega | exact b2i_01 _ | exact shr_r _ _) (by first | assumption | omega | exact b2i_01 _ | exact shr_r _ _) (by first | assumption | omega | exact b2i_01 _ | exact shr_r _ _) (by first | assumption | omega | exact b2i_01 _ | exact shr_r _ _) (by first | assumption | omega | exact b2i_01 _ | exact shr_r _ _) (by first | assumption | omega | exact b2i_01 _ | exact shr_r _ _) (by first | assumption | omega | exact b2i_01 _ | exact shr_r _ _) H.size) (vx_cwSW 5 hts gL_changes_L_sets rfl rfl rfl (by decide +kernel) ⟨Nat.le_of_ble_eq_true rfl, Nat.le_of_ble_eq_true rfl⟩) (zpS hK hP hD [0, 1, 2, 3, 4, 5, 6, 7, 8, 9, 10, 11, 12, 13, 14, 15, 16, 17, 18, 19, 20, 21, 22, 23, 24, 25, 26, 27, 28] rfl rfl) rfl rfl hl.1 rfl (lv_room (Nat.le_of_ble_eq_true rfl)) dL_changes_621 ⟨Nat.le_of_ble_eq_true rfl, Nat.le_of_ble_eq_true rfl⟩) hP hD hS hA [0, 1, 2, 3, 4, 5, 6, 7, 8, 9, 10, 11, 12, 13, 14, 15, 16, 17, 18, 19, 20, 21, 22, 23, 24, 25, 26, 27, 28] [29] rfl rfl rfl (by decide) (fun v_103 u_102 H locs r_101 hP hD hS => ?_)
              obtain ⟨stx_104, spx_105, pex_106, idlx_107, idnx_108, lenx_109, cntx_110⟩ := u_102
              obtain ⟨v_111, r_101⟩ := r_101
              refine ze_i v_111 ?_
              have r_101 : (stx_104, spx_105, pex_106, idlx_107, idnx_108) = scF pw la st asl now sp pe idl idn ∧ idR lenx_109 cntx_110 idlx_107 idnx_108 := r_101
              have hP : va_P (dC, dI) vwCl (wPW cI cJ cZ q pw co la (uZ vo kk vv) cpar fr cdee use runx_5 nC tdue tlat twk nT edue elat ewk nE lenx_109 cntx_110 tin spx_105 pex_106 slp late srv hv av bd sh sc lt rule now stx_104 asl idlx_107 idnx_108 par div dee w) H := hP.sub [1, 2, 3, 4, 5, 6, 7, 8, 9, 10, 11, 12, 13, 14, 15, 16, 17, 18, 19, 20, 21, 22, 23, 24, 25, 26, 27, 28, 29, 0] (z_fm rfl)
              have hD : va_D A (wPW cI cJ cZ q pw co la (uZ vo kk vv) cpar fr cdee use runx_5 nC tdue tlat twk nT edue elat ewk nE lenx_109 cntx_110 tin spx_105 pex_106 slp late srv hv av bd sh sc lt rule now stx_104 asl idlx_107 idnx_108 par div dee w) := hD.sub [1, 2, 3, 4, 5, 6, 7, 8, 9, 10, 11, 12, 13, 14, 15, 16, 17, 18, 19, 20, 21, 22, 23, 24, 25, 26, 27, 28, 29, 0] (by decide) rfl
              obtain ⟨hsc9, hid9⟩ := r_101
              have hwk9 := sc_f hsc9
              have hI6 := lj_sc hI5 (by omega) hsc9 hid9
              have hI8 := lj_mono (K2 := K + 200) (lj_vote hI6 (x1 := kk) (x2 := vv) (by omega)) (by omega)
              have hvo8 : rgZ (uZ vo kk vv) 6 3 := rgZ_u hvo (by omega)
              have hdz8 := dzM_r (par := par) (use := use) hvo8 hde hnC
              have hdp9 : dzM (uZ vo kk vv) par dee use nC ≤ vv := by have h := dz_vo (vo := uZ vo kk vv) (par := par) (dee := dee) (use := use) (nC := nC) (k := kk) hnC.1 (by omega); rw [uZ_s] at h; exact h
              refine lv_istore (lv' := [(13, .int (iI (vo kk))), (12, .int (iI vv)), (11, .int (iI kk)), (10, .int (iI ((pw 0) * (la st)))), (8, .long (lI (alZ pw co la vo use nC tdue tlat nT tin sp slp late srv av bd sh now st par dee))), (6, .long (lI sp)), (5, .int (iI st)), (4, .int (iI (smZ y 8))), (0, .ref (q 0)), (1, .ref (q 29)), (2, .int (iI y)), (3, .int (iI od))]) hx hb dL_changes_624 hl (by decide) rfl (fun ls hl => ?_)
              refine lv_iload hx hb dL_changes_626 (lv_at hl 2 rfl) ?_
              refine zi_flt (tgt := 648) hx hb (by omega) dL_changes_628 (by decide) (fun c_112 => ?_) (fun c_112 => ?_)
              · skip
                exact absurd c_112 (by omega)
              · skip
                refine lv_iload hx hb dL_changes_631 (lv_at hl 2 rfl) ?_
                refine lv_iconst (v := iI 5) hx hb dL_changes_633 rfl ?_
                refine zi_cgt (tgt := 648) hx hb (by omega) (by decide) dL_changes_634 (by decide) (fun c_113 => ?_) (fun c_113 => ?_)
                · skip
                  exact absurd c_113 (by omega)
                · skip
                  refine lv_iload hx hb dL_changes_637 (lv_at hl 1 rfl) ?_
                  refine zi_flt (tgt := 648) hx hb (by omega) dL_changes_639 (by decide) (fun c_114 => ?_) (fun c_114 => ?_)
                  · skip
                    exact absurd c_114 (by omega)
                  · skip
                    refine lv_iload hx hb dL_changes_642 (lv_at hl 1 rfl) ?_
                    refine lv_iconst (v := iI 3) hx hb dL_changes_644 rfl ?_
                    refine zi_cle (tgt := 671) hx hb (by omega) (by decide) dL_changes_645 (by decide) (fun c_115 => ?_) (fun c_115 => ?_)
                    · skip
                      refine lv_iload hx hb dL_changes_671 (lv_at hl 0 rfl) ?_
                      refine zi_flt (tgt := 708) hx hb (by omega) dL_changes_673 (by decide) (fun c_116 => ?_) (fun c_116 => ?_)
                      · skip
                        exact absurd c_116 (by omega)
                      · skip
                        refine lv_iload hx hb dL_changes_676 (lv_at hl 0 rfl) ?_
                        refine lv_iconst (v := iI 4) hx hb dL_changes_678 rfl ?_
                        refine zi_cge (tgt := 708) hx hb (by omega) (by decide) dL_changes_679 (by decide) (fun c_117 => ?_) (fun c_117 => ?_)
                        · skip
                          exact absurd c_117 (by omega)
                        · skip
                          refine lv_aload_n hx hb dL_changes_682 rfl (lv_at hl 8 rfl) ?_
                          refine lv_iload hx hb dL_changes_683 (lv_at hl 6 rfl) ?_
                          refine lv_lload hx hb dL_changes_685 (lv_at hl 5 rfl) ?_
                          refine lv_iload hx hb dL_changes_687 (lv_at hl 3 rfl) ?_
                          refine zc_pi (va_runS (As := [.ref (q 0), .int (iI st), .long (lI sp), .int (iI ((pw 0) * (la st)))]) (rest := []) ⟨hx, hb, hml, hown, hts⟩ (kL_woke l dC dI cI cJ cZ q pw co la (uZ vo kk vv) cpar fr cdee use runx_5 nC tdue tlat twk nT edue elat ewk nE lenx_109 cntx_110 tin spx_105 pex_106 slp late srv hv av bd sh sc lt rule now stx_104 asl idlx_107 idnx_108 par div dee st sp ((pw 0) * (la st)) (hwk9.1) (hwk9.2) (by first | assumption | omega | exact b2i_01 _ | exact shr_r _ _) (by first | assumption | omega | exact b2i_01 _ | exact shr_r _ _)) (va_cwS 4 hts gL_changes_L_woke rfl rfl rfl (by decide +kernel) ⟨Nat.le_of_ble_eq_true rfl, Nat.le_of_ble_eq_true rfl⟩) (zqS hK hP [0, 1, 2, 3, 4, 5, 6, 7, 8, 9, 10, 11, 12, 13, 14, 15, 16, 17, 18, 19, 20, 21, 22, 23, 24, 25, 26, 27, 28] rfl) rfl rfl hl.1 rfl (lv_room (Nat.le_of_ble_eq_true rfl)) dL_changes_689 ⟨Nat.le_of_ble_eq_true rfl, Nat.le_of_ble_eq_true rfl⟩) ?_
                          refine zi_feq (tgt := 708) hx hb (by decide) dL_changes_692 (by decide) (fun c_118 => ?_) (fun c_118 => ?_)
                          · skip
                            exact absurd c_118 (by decide)
                          · skip
                            refine lv_aload_n hx hb dL_changes_695 rfl (lv_at hl 8 rfl) ?_
                            refine zc_i (va_runV (As := []) (rest := []) ⟨hx, hb, hml, hown, hts⟩ (kX7_depth l dC dI cI cJ cZ q pw co la (uZ vo kk vv) cpar fr cdee use runx_5 nC tdue tlat twk nT edue elat ewk nE lenx_109 cntx_110 tin spx_105 pex_106 slp late srv hv av bd sh sc lt rule now stx_104 asl idlx_107 idnx_108 par div dee (by first | assumption | omega | exact b2i_01 _ | exact shr_r _ _) (by first | assumption | omega | exact b2i_01 _ | exact shr_r _ _) (by first | assumption | omega | exact b2i_01 _ | exact shr_r _ _) (by first | assumption | omega | exact b2i_01 _ | exact shr_r _ _) (by first | assumption | omega | exact b2i_01 _ | exact shr_r _ _) (by first | assumption | omega | exact b2i_01 _ | exact shr_r _ _) (by first | assumption | omega | exact b2i_01 _ | exact shr_r _ _) (by first | assumption | omega | exact b2i_01 _ | exact shr_r _ _) (by first | assumption | omega | exact b2i_01 _ | exact shr_r _ _) H.size) (cwV 0 hts gL_changes_X7_depth rfl rfl rfl (by decide +kernel) ⟨Nat.le_of_ble_eq_true rfl, Nat.le_of_ble_eq_true rfl⟩) (zpV hK hP hD [0, 1, 2, 3, 4, 5, 6, 7, 8, 9, 10, 11, 12, 13, 14, 15, 16, 17, 18, 19, 20, 21, 22, 23, 24, 25, 26, 27, 28] rfl rfl 0 rfl rfl) rfl rfl hl.1 rfl (lv_room (Nat.le_of_ble_eq_true rfl)) dL_changes_696 ⟨Nat.le_of_ble_eq_true rfl, Nat.le_of_ble_eq_true rfl⟩) hP hD hS hA [0, 1, 2, 3, 4, 5, 6, 7, 8, 9, 10, 11, 12, 13, 14, 15, 16, 17, 18, 19, 20, 21, 22, 23, 24, 25, 26, 27, 28] [29] rfl rfl rfl (by decide) (fun v_121 u_120 H locs r_119 hP hD hS => ?_)
                            refine ze_i r_119 ?_
                            have hP : va_P (dC, dI) vwCl (wPW cI cJ cZ q pw co la (uZ vo kk vv) cpar fr cdee use (rnZ cpar (nC - 1) (r0Z use nC runx_5)) nC tdue tlat twk nT edue elat ewk nE lenx_109 cntx_110 tin spx_105 pex_106 slp late srv hv av bd sh sc lt rule now stx_104 asl idlx_107 idnx_108 par div dee w) H := hP.sub [1, 2, 3, 4, 5, 6, 7, 8, 9, 10, 11, 12, 13, 14, 15, 16, 17, 18, 19, 20, 21, 22, 23, 24, 25, 26, 27, 28, 29, 0] (z_fm rfl)
                            have hD : va_D A (wPW cI cJ cZ q pw co la (uZ vo kk vv) cpar fr cdee use (rnZ cpar (nC - 1) (r0Z use nC runx_5)) nC tdue tlat twk nT edue elat ewk nE lenx_109 cntx_110 tin spx_105 pex_106 slp late srv hv av bd sh sc lt rule now stx_104 asl idlx_107 idnx_108 par div dee w) := hD.sub [1, 2, 3, 4, 5, 6, 7, 8, 9, 10, 11, 12, 13, 14, 15, 16, 17, 18, 19, 20, 21, 22, 23, 24, 25, 26, 27, 28, 29, 0] (by decide) rfl
                            refine lv_iload hx hb dL_changes_699 (lv_at hl 1 rfl) ?_
                            refine zi_cgt (tgt := 708) hx hb (by omega) (by omega) dL_changes_701 (by decide) (fun c_122 => ?_) (fun c_122 => ?_)
                            · skip
                              exact absurd c_122 (by omega)
                            · skip
                              refine lv_iconst (v := iI 1) hx hb dL_changes_704 rfl ?_
                              refine lv_goto (tgt := 709) hx hb dL_changes_705 (by decide) ?_
                              refine lv_istore (lv' := [(14, .int (iI 1)), (13, .int (iI (vo kk))), (12, .int (iI vv)), (11, .int (iI kk)), (10, .int (iI ((pw 0) * (la st)))), (8, .long (lI (alZ pw co la vo use nC tdue tlat nT tin sp slp late srv av bd sh now st par dee))), (6, .long (lI sp)), (5, .int (iI st)), (4, .int (iI (smZ y 8))), (0, .ref (q 0)), (1, .ref (q 29)), (2, .int (iI y)), (3, .int (iI od))]) hx hb dL_changes_709 hl (by decide) rfl (fun ls hl => ?_)
                              refine lv_iload hx hb dL_changes_711 (lv_at hl 0 rfl) ?_
                              refine zi_feq (tgt := 745) hx hb (by decide) dL_changes_713 (by decide) (fun c_123 => ?_) (fun c_123 => ?_)
                              · skip
                                exact absurd c_123 (by decide)
                              · skip
                                refine lv_iload_n hx hb dL_changes_716 rfl (lv_at hl 11 rfl) ?_
                                refine lv_bipush (v := iI 9) hx hb dL_changes_717 (by decide) ?_
                                refine zi_shr hx hb dL_changes_719 ?_
                                refine lv_iconst (v := iI 3) hx hb dL_changes_720 rfl ?_
                                refine zc_pi (va_runS (As := [.int (iI (shrZ y 9)), .int (iI 3)]) (rest := []) ⟨hx, hb, hml, hown, hts⟩ (kL_some l dC dI cI cJ cZ (shrZ y 9) 3 (by first | assumption | omega | exact b2i_01 _ | exact shr_r _ _) (by first | assumption | omega | exact b2i_01 _ | exact shr_r _ _)) (va_cwS 2 hts gL_changes_L_some rfl rfl rfl (by decide +kernel) ⟨Nat.le_of_ble_eq_true rfl, Nat.le_of_ble_eq_true rfl⟩) (zqS hK hP [] rfl) rfl rfl hl.1 rfl (lv_room (Nat.le_of_ble_eq_true rfl)) dL_changes_721 ⟨Nat.le_of_ble_eq_true rfl, Nat.le_of_ble_eq_true rfl⟩) ?_
                                have e_124 := sm_r (shrZ y 9) (show (0 : Int) < 3 by decide)
                                refine zi_feq (tgt := 741) hx hb (by omega) dL_changes_724 (by decide) (fun c_125 => ?_) (fun c_125 => ?_)
                                · skip
                                  refine lv_iconst (v := iI 1) hx hb dL_changes_741 rfl ?_
                                  refine lv_goto (tgt := 746) hx hb dL_changes_742 (by decide) ?_
                                  subst hQ
                                  refine W.widen (k := 1) (n := 6) (by decide) (by decide) ?_
                                  exact zret_z (W1 := fun u9 : (Int → Int) × (Int → Int) × (Int → Int) × (Int → Int) × (Int → Int) × Int × Int × Int × (Int → Int) × Int × (Int → Int) × Int × Int × (Int → Int) => wPW cI cJ cZ q (u9.1) (u9.2.1) (u9.2.2.1) (u9.2.2.2.1) cpar fr cdee use (u9.2.2.2.2.1) nC tdue tlat twk nT edue elat ewk nE (u9.2.2.2.2.2.2.2.2.2.2.1) (u9.2.2.2.2.2.2.2.2.2.2.2.1) tin (u9.2.2.2.2.2.2.1) (u9.2.2.2.2.2.2.2.1) slp late srv hv av bd sh sc lt (u9.2.2.2.2.2.2.2.2.2.2.2.2.1) now (u9.2.2.2.2.2.1) asl (u9.2.2.2.2.2.2.2.2.1) (u9.2.2.2.2.2.2.2.2.2.1) par div dee (u9.2.2.2.2.2.2.2.2.2.2.2.2.2)) (pw, co, la, uZ vo kk vv, rnZ cpar (nC - 1) (r0Z use nC runx_5), stx_104, spx_105, pex_106, idlx_107, idnx_108, lenx_109, cntx_110, rule, w) hx hb hr hP hD hS hlocks dL_changes_746 (by first | decide | omega) (by first | exact ⟨rfl, hI7⟩ | exact ⟨rfl, lj_run hI8 (rn_t (r0_t hrun9))⟩)
                                · skip
                                  refine lv_aload_n hx hb dL_changes_727 rfl (lv_at hl 9 rfl) ?_
                                  refine lv_iconst (v := iI 1) hx hb dL_changes_728 rfl ?_
                                  refine lv_iload hx hb dL_changes_729 (lv_at hl 3 rfl) ?_
                                  refine lv_iconst (v := iI 3) hx hb dL_changes_731 rfl ?_
                                  refine lv_iconst (v := iI 0) hx hb dL_changes_732 rfl ?_
                                  refine zc_i (vx_runSW (As := [.ref (q 0), .int (iI 1), .int (iI kk), .int (iI 3), .int (iI 0)]) (rest := []) ⟨hx, hb, hml, hown, hts⟩ (kL_sets_ok1 l dC dI cI cJ cZ q pw co la (uZ vo kk vv) cpar fr cdee use (rnZ cpar (nC - 1) (r0Z use nC runx_5)) nC tdue tlat twk nT edue elat ewk nE lenx_109 cntx_110 tin spx_105 pex_106 slp late srv hv av bd sh sc lt rule now stx_104 asl idlx_107 idnx_108 par div dee kk 3 (by first | assumption | omega | exact b2i_01 _ | exact shr_r _ _) (by first | assumption | omega | exact b2i_01 _ | exact shr_r _ _) (by first | assumption | omega | exact b2i_01 _ | exact shr_r _ _) (by first | assumption | omega | exact b2i_01 _ | exact shr_r _ _) (by first | assumption | omega | exact b2i_01 _ | exact shr_r _ _) (by first | assumption | omega | exact b2i_01 _ | exact shr_r _ _) (by first | assumption | omega | exact b2i_01 _ | exact shr_r _ _) (by first | assumption | omega | exact b2i_01 _ | exact shr_r _ _) (by first | assumption | omega | exact b2i_01 _ | exact shr_r _ _) (by first | assumption | omega | exact b2i_01 _ | exact shr_r _ _) H.size) (vx_cwSW 5 hts gL_changes_L_sets rfl rfl rfl (by decide +kernel) ⟨Nat.le_of_ble_eq_true rfl, Nat.le_of_ble_eq_true rfl⟩) (zpS hK hP hD [0, 1, 2, 3, 4, 5, 6, 7, 8, 9, 10, 11, 12, 13, 14, 15, 16, 17, 18, 19, 20, 21, 22, 23, 24, 25, 26, 27, 28] rfl rfl) rfl rfl hl.1 rfl (lv_room (Nat.le_of_ble_eq_true rfl)) dL_changes_733 ⟨Nat.le_of_ble_eq_true rfl, Nat.le_of_ble_eq_true rfl⟩) hP hD hS hA [0, 1, 2, 3, 4, 5, 6, 7, 8, 9, 10, 11, 12, 13, 14, 15, 16, 17, 18, 19, 20, 21, 22, 23, 24, 25, 26, 27, 28] [29] rfl rfl rfl (by decide) (fun v_128 u_127 H locs r_126 hP hD hS => ?_)
                                  obtain ⟨stx_129, spx_130, pex_131, idlx_132, idnx_133, lenx_134, cntx_135⟩ := u_127
                                  obtain ⟨v_136, r_126⟩ := r_126
                                  refine ze_i v_136 ?_
                                  have r_126 : (stx_129, spx_130, pex_131, idlx_132, idnx_133) = scF pw la stx_104 asl now spx_105 pex_106 idlx_107 idnx_108 ∧ idR lenx_134 cntx_135 idlx_132 idnx_133 := r_126
                                  have hP : va_P (dC, dI) vwCl (wPW cI cJ cZ q pw co la (uZ (uZ vo kk vv) kk 3) cpar fr cdee use (rnZ cpar (nC - 1) (r0Z use nC runx_5)) nC tdue tlat twk nT edue elat ewk nE lenx_134 cntx_135 tin spx_130 pex_131 slp late srv hv av bd sh sc lt rule now stx_129 asl idlx_132 idnx_133 par div dee w) H := hP.sub [1, 2, 3, 4, 5, 6, 7, 8, 9, 10, 11, 12, 13, 14, 15, 16, 17, 18, 19, 20, 21, 22, 23, 24, 25, 26, 27, 28, 29, 0] (z_fm rfl)
                                  have hD : va_D A (wPW cI cJ cZ q pw co la (uZ (uZ vo kk vv) kk 3) cpar fr cdee use (rnZ cpar (nC - 1) (r0Z use nC runx_5)) nC tdue tlat twk nT edue elat ewk nE lenx_134 cntx_135 tin spx_130 pex_131 slp late srv hv av bd sh sc lt rule now stx_129 asl idlx_132 idnx_133 par div dee w) := hD.sub [1, 2, 3, 4, 5, 6, 7, 8, 9, 10, 11, 12, 13, 14, 15, 16, 17, 18, 19, 20, 21, 22, 23, 24, 25, 26, 27, 28, 29, 0] (by decide) rfl
                                  obtain ⟨hsc7, hid7⟩ := r_126
                                  have hI7 := lj_vote (lj_sc (lj_run hI8 (show tfZ ((rnZ cpar (nC - 1) (r0Z use nC runx_5))) from rn_t (r0_t hrun9))) (by omega) hsc7 hid7) (x1 := kk) (x2 := 3) (by omega)
                                  refine lv_iload hx hb dL_changes_736 (lv_at hl 2 rfl) ?_
                                  refine zi_sameN (tgt := 745) hx hb (by exact uZ_s _ _ _) dL_changes_738 (by decide) ?_
                                  refine lv_iconst (v := iI 1) hx hb dL_changes_741 rfl ?_
                                  refine lv_goto (tgt := 746) hx hb dL_changes_742 (by decide) ?_
                                  subst hQ
                                  refine W.widen (k := 1) (n := 6) (by decide) (by decide) ?_
                                  exact zret_z (W1 := fun u9 : (Int → Int) × (Int → Int) × (Int → Int) × (Int → Int) × (Int → Int) × Int × Int × Int × (Int → Int) × Int × (Int → Int) × Int × Int × (Int → Int) => wPW cI cJ cZ q (u9.1) (u9.2.1) (u9.2.2.1) (u9.2.2.2.1) cpar fr cdee use (u9.2.2.2.2.1) nC tdue tlat twk nT edue elat ewk nE (u9.2.2.2.2.2.2.2.2.2.2.1) (u9.2.2.2.2.2.2.2.2.2.2.2.1) tin (u9.2.2.2.2.2.2.1) (u9.2.2.2.2.2.2.2.1) slp late srv hv av bd sh sc lt (u9.2.2.2.2.2.2.2.2.2.2.2.2.1) now (u9.2.2.2.2.2.1) asl (u9.2.2.2.2.2.2.2.2.1) (u9.2.2.2.2.2.2.2.2.2.1) par div dee (u9.2.2.2.2.2.2.2.2.2.2.2.2.2)) (pw, co, la, uZ (uZ vo kk vv) kk 3, rnZ cpar (nC - 1) (r0Z use nC runx_5), stx_129, spx_130, pex_131, idlx_132, idnx_133, lenx_134, cntx_135, rule, w) hx hb hr hP hD hS hlocks dL_changes_746 (by first | decide | omega) (by first | exact ⟨rfl, hI7⟩ | exact ⟨rfl, lj_run hI8 (rn_t (r0_t hrun9))⟩)
                    · skip
                      exact absurd c_115 (by omega)
            · skip
              refine zc_i (vx_runSW (As := [.ref (q 0), .int (iI 1), .int (iI kk), .int (iI vv), .int (iI 0)]) (rest := []) ⟨hx, hb, hml, hown, hts⟩ (kL_sets_bad1 l dC dI cI cJ cZ q pw co la vo cpar fr cdee use runx_5 nC tdue tlat twk nT edue elat ewk nE len cnt tin sp pe slp late srv hv av bd sh sc lt rule now st asl idl idn par div dee kk vv (by first | assumption | omega | exact b2i_01 _ | exact shr_r _ _) (by first | assumption | omega | exact b2i_01 _ | exact shr_r _ _) (by first | assumption | omega | exact b2i_01 _ | exact shr_r _ _) (by first | assumption | omega | exact b2i_01 _ | exact shr_r _ _) (by first | assumption | omega | exact b2i_01 _ | exact shr_r _ _) (by first | assumption | omega | exact b2i_01 _ | exact shr_r _ _) (by first | assumption | omega | exact b2i_01 _ | exact shr_r _ _) (by first | assumption | omega | exact b2i_01 _ | exact shr_r _ _) (by first | assumption | omega | exact b2i_01 _ | exact shr_r _ _) (by first | assumption | omega | exact b2i_01 _ | exact shr_r _ _) htr H.size) (vx_cwSW 5 hts gL_changes_L_sets rfl rfl rfl (by decide +kernel) ⟨Nat.le_of_ble_eq_true rfl, Nat.le_of_ble_eq_true rfl⟩) (zyS hY hX hS hA hK hP hD [0, 1, 2, 3, 4, 5, 6, 7, 8, 9, 10, 11, 12, 13, 14, 15, 16, 17, 18, 19, 20, 21, 22, 23, 24, 25, 26, 27, 28] rfl rfl) rfl rfl hl.1 rfl (lv_room (Nat.le_of_ble_eq_true rfl)) dL_changes_621 ⟨Nat.le_of_ble_eq_true rfl, Nat.le_of_ble_eq_true rfl⟩) hP hD hS hA [0, 1, 2, 3, 4, 5, 6, 7, 8, 9, 10, 11, 12, 13, 14, 15, 16, 17, 18, 19, 20, 21, 22, 23, 24, 25, 26, 27, 28] [29] rfl rfl rfl (by decide) (fun v_139 u_138 H locs r_137 hP hD hS => ?_)
              refine ze_i r_137 ?_
              have hP : va_P (dC, dI) vwCl (wPW cI cJ cZ q pw co la vo cpar fr cdee use runx_5 nC tdue tlat twk nT edue elat ewk nE len cnt tin sp pe slp late srv hv av bd sh sc lt rule now st asl idl idn par div dee w) H := hP.sub [1, 2, 3, 4, 5, 6, 7, 8, 9, 10, 11, 12, 13, 14, 15, 16, 17, 18, 19, 20, 21, 22, 23, 24, 25, 26, 27, 28, 29, 0] (z_fm rfl)
              have hD : va_D A (wPW cI cJ cZ q pw co la vo cpar fr cdee use runx_5 nC tdue tlat twk nT edue elat ewk nE len cnt tin sp pe slp late srv hv av bd sh sc lt rule now st asl idl idn par div dee w) := hD.sub [1, 2, 3, 4, 5, 6, 7, 8, 9, 10, 11, 12, 13, 14, 15, 16, 17, 18, 19, 20, 21, 22, 23, 24, 25, 26, 27, 28, 29, 0] (by decide) rfl
              refine lv_istore (lv' := [(13, .int (iI (-82))), (12, .int (iI vv)), (11, .int (iI kk)), (10, .int (iI ((pw 0) * (la st)))), (8, .long (lI (alZ pw co la vo use nC tdue tlat nT tin sp slp late srv av bd sh now st par dee))), (6, .long (lI sp)), (5, .int (iI st)), (4, .int (iI (smZ y 8))), (0, .ref (q 0)), (1, .ref (q 29)), (2, .int (iI y)), (3, .int (iI od))]) hx hb dL_changes_624 hl (by decide) rfl (fun ls hl => ?_)
              refine lv_iload hx hb dL_changes_626 (lv_at hl 2 rfl) ?_
              refine zi_flt (tgt := 648) hx hb (by omega) dL_changes_628 (by decide) (fun c_140 => ?_) (fun c_140 => ?_)
              · skip
                refine lv_iload hx hb dL_changes_648 (lv_at hl 0 rfl) ?_
                refine lv_bipush (v := iI (-82)) hx hb dL_changes_650 (by decide) ?_
                refine zi_cne (tgt := 669) hx hb (by decide) (by decide) dL_changes_652 (by decide) (fun c_141 => ?_) (fun c_141 => ?_)
                · skip
                  exact absurd c_141 (by decide)
                · skip
                  refine lv_aload_n hx hb dL_changes_655 rfl (lv_at hl 8 rfl) ?_
                  refine zc_l (va_runS (As := [.ref (q 0)]) (rest := []) ⟨hx, hb, hml, hown, hts⟩ (kL_all l dC dI cI cJ cZ q pw co la vo cpar fr cdee use runx_5 nC tdue tlat twk nT edue elat ewk nE len cnt tin sp pe slp late srv hv av bd sh sc lt rule now st asl idl idn par div dee (by first | assumption | omega | exact b2i_01 _ | exact shr_r _ _) (by first | assumption | omega | exact b2i_01 _ | exact shr_r _ _) (by first | assumption | omega | exact b2i_01 _ | exact shr_r _ _) (by first | assumption | omega | exact b2i_01 _ | exact shr_r _ _) (by first | assumption | omega | exact b2i_01 _ | exact shr_r _ _) (by first | assumption | omega | exact b2i_01 _ | exact shr_r _ _) (by first | assumption | omega | exact b2i_01 _ | exact shr_r _ _) (by first | assumption | omega | exact b2i_01 _ | exact shr_r _ _) (by first | assumption | omega | exact b2i_01 _ | exact shr_r _ _) (by first | assumption | omega | exact b2i_01 _ | exact shr_r _ _) (by first | assumption | omega | exact b2i_01 _ | exact shr_r _ _) (by first | assumption | omega | exact b2i_01 _ | exact shr_r _ _) (by first | assumption | omega | exact b2i_01 _ | exact shr_r _ _) (by first | assumption | omega | exact b2i_01 _ | exact shr_r _ _) (by first | assumption | omega | exact b2i_01 _ | exact shr_r _ _) (by first | assumption | omega | exact b2i_01 _ | exact shr_r _ _) (by first | assumption | omega | exact b2i_01 _ | exact shr_r _ _) (by first | assumption | omega | exact b2i_01 _ | exact shr_r _ _) (by first | assumption | omega | exact b2i_01 _ | exact shr_r _ _) (by first | assumption | omega | exact b2i_01 _ | exact shr_r _ _) (by first | assumption | omega | exact b2i_01 _ | exact shr_r _ _) H.size) (va_cwS 1 hts gL_changes_L_all rfl rfl rfl (by decide +kernel) ⟨Nat.le_of_ble_eq_true rfl, Nat.le_of_ble_eq_true rfl⟩) (zpS hK hP hD [0, 1, 2, 3, 4, 5, 6, 7, 8, 9, 10, 11, 12, 13, 14, 15, 16, 17, 18, 19, 20, 21, 22, 23, 24, 25, 26, 27, 28] rfl rfl) rfl rfl hl.1 rfl (lv_room (Nat.le_of_ble_eq_true rfl)) dL_changes_656 ⟨Nat.le_of_ble_eq_true rfl, Nat.le_of_ble_eq_true rfl⟩) hP hD hS hA [0, 1, 2, 3, 4, 5, 6, 7, 8, 9, 10, 11, 12, 13, 14, 15, 16, 17, 18, 19, 20, 21, 22, 23, 24, 25, 26, 27, 28] [29] rfl rfl rfl (by decide) (fun v_144 u_143 H locs r_142 hP hD hS => ?_)
                  obtain ⟨runx_145, rfl⟩ : ∃ z, z = u_143 := ⟨_, rfl⟩
                  obtain ⟨v_146, r_142⟩ := r_142
                  refine ze_l v_146 ?_
                  have r_142 : tfZ runx_145 := r_142
                  have hP : va_P (dC, dI) vwCl (wPW cI cJ cZ q pw co la vo cpar fr cdee use runx_145 nC tdue tlat twk nT edue elat ewk nE len cnt tin sp pe slp late srv hv av bd sh sc lt rule now st asl idl idn par div dee w) H := hP.sub [1, 2, 3, 4, 5, 6, 7, 8, 9, 10, 11, 12, 13, 14, 15, 16, 17, 18, 19, 20, 21, 22, 23, 24, 25, 26, 27, 28, 29, 0] (z_fm rfl)
                  have hD : va_D A (wPW cI cJ cZ q pw co la vo cpar fr cdee use runx_145 nC tdue tlat twk nT edue elat ewk nE len cnt tin sp pe slp late srv hv av bd sh sc lt rule now st asl idl idn par div dee w) := hD.sub [1, 2, 3, 4, 5, 6, 7, 8, 9, 10, 11, 12, 13, 14, 15, 16, 17, 18, 19, 20, 21, 22, 23, 24, 25, 26, 27, 28, 29, 0] (by decide) rfl
                  have hrun8 := r_142
                  refine lv_lload hx hb dL_changes_659 (lv_at hl 4 rfl) ?_
                  refine zl_sameN (tgt := 669) hx hb (by rfl) dL_changes_661 dL_changes_662 (by decide) ?_
                  refine lv_iconst (v := iI 1) hx hb dL_changes_665 rfl ?_
                  refine lv_goto (tgt := 670) hx hb dL_changes_666 (by decide) ?_
                  subst hQ
                  refine W.widen (k := 1) (n := 6) (by decide) (by decide) ?_
                  exact zret_z (W1 := fun u9 : (Int → Int) × (Int → Int) × (Int → Int) × (Int → Int) × (Int → Int) × Int × Int × Int × (Int → Int) × Int × (Int → Int) × Int × Int × (Int → Int) => wPW cI cJ cZ q (u9.1) (u9.2.1) (u9.2.2.1) (u9.2.2.2.1) cpar fr cdee use (u9.2.2.2.2.1) nC tdue tlat twk nT edue elat ewk nE (u9.2.2.2.2.2.2.2.2.2.2.1) (u9.2.2.2.2.2.2.2.2.2.2.2.1) tin (u9.2.2.2.2.2.2.1) (u9.2.2.2.2.2.2.2.1) slp late srv hv av bd sh sc lt (u9.2.2.2.2.2.2.2.2.2.2.2.2.1) now (u9.2.2.2.2.2.1) asl (u9.2.2.2.2.2.2.2.2.1) (u9.2.2.2.2.2.2.2.2.2.1) par div dee (u9.2.2.2.2.2.2.2.2.2.2.2.2.2)) (pw, co, la, vo, runx_145, st, sp, pe, idl, idn, len, cnt, rule, w) hx hb hr hP hD hS hlocks dL_changes_670 (by first | decide | omega) (by exact ⟨rfl, lj_mono (K2 := K + 200) (lj_run hI hrun8) (by omega)⟩)
              · skip
                refine lv_iload hx hb dL_changes_631 (lv_at hl 2 rfl) ?_
                refine lv_iconst (v := iI 5) hx hb dL_changes_633 rfl ?_
                refine zi_cgt (tgt := 648) hx hb (by omega) (by decide) dL_changes_634 (by decide) (fun c_147 => ?_) (fun c_147 => ?_)
                · skip
                  refine lv_iload hx hb dL_changes_648 (lv_at hl 0 rfl) ?_
                  refine lv_bipush (v := iI (-82)) hx hb dL_changes_650 (by decide) ?_
                  refine zi_cne (tgt := 669) hx hb (by decide) (by decide) dL_changes_652 (by decide) (fun c_148 => ?_) (fun c_148 => ?_)
                  · skip
                    exact absurd c_148 (by decide)
                  · skip
                    refine lv_aload_n hx hb dL_changes_655 rfl (lv_at hl 8 rfl) ?_
                    refine zc_l (va_runS (As := [.ref (q 0)]) (rest := []) ⟨hx, hb, hml, hown, hts⟩ (kL_all l dC dI cI cJ cZ q pw co la vo cpar fr cdee use runx_5 nC tdue tlat twk nT edue elat ewk nE len cnt tin sp pe slp late srv hv av bd sh sc lt rule now st asl idl idn par div dee (by first | assumption | omega | exact b2i_01 _ | exact shr_r _ _) (by first | assumption | omega | exact b2i_01 _ | exact shr_r _ _) (by first | assumption | omega | exact b2i_01 _ | exact shr_r _ _) (by first | assumption | omega | exact b2i_01 _ | exact shr_r _ _) (by first | assumption | omega | exact b2i_01 _ | exact shr_r _ _) (by first | assumption | omega | exact b2i_01 _ | exact shr_r _ _) (by first | assumption | omega | exact b2i_01 _ | exact shr_r _ _) (by first | assumption | omega | exact b2i_01 _ | exact shr_r _ _) (by first | assumption | omega | exact b2i_01 _ | exact shr_r _ _) (by first | assumption | omega | exact b2i_01 _ | exact shr_r _ _) (by first | assumption | omega | exact b2i_01 _ | exact shr_r _ _) (by first | assumption | omega | exact b2i_01 _ | exact shr_r _ _) (by first | assumption | omega | exact b2i_01 _ | exact shr_r _ _) (by first | assumption | omega | exact b2i_01 _ | exact shr_r _ _) (by first | assumption | omega | exact b2i_01 _ | exact shr_r _ _) (by first | assumption | omega | exact b2i_01 _ | exact shr_r _ _) (by first | assumption | omega | exact b2i_01 _ | exact shr_r _ _) (by first | assumption | omega | exact b2i_01 _ | exact shr_r _ _) (by first | assumption | omega | exact b2i_01 _ | exact shr_r _ _) (by first | assumption | omega | exact b2i_01 _ | exact shr_r _ _) (by first | assumption | omega | exact b2i_01 _ | exact shr_r _ _) H.size) (va_cwS 1 hts gL_changes_L_all rfl rfl rfl (by decide +kernel) ⟨Nat.le_of_ble_eq_true rfl, Nat.le_of_ble_eq_true rfl⟩) (zpS hK hP hD [0, 1, 2, 3, 4, 5, 6, 7, 8, 9, 10, 11, 12, 13, 14, 15, 16, 17, 18, 19, 20, 21, 22, 23, 24, 25, 26, 27, 28] rfl rfl) rfl rfl hl.1 rfl (lv_room (Nat.le_of_ble_eq_true rfl)) dL_changes_656 ⟨Nat.le_of_ble_eq_true rfl, Nat.le_of_ble_eq_true rfl⟩) hP hD hS hA [0, 1, 2, 3, 4, 5, 6, 7, 8, 9, 10, 11, 12, 13, 14, 15, 16, 17, 18, 19, 20, 21, 22, 23, 24, 25, 26, 27, 28] [29] rfl rfl rfl (by decide) (fun v_151 u_150 H locs r_149 hP hD hS => ?_)
                    obtain ⟨runx_152, rfl⟩ : ∃ z, z = u_150 := ⟨_, rfl⟩
                    obtain ⟨v_153, r_149⟩ := r_149
                    refine ze_l v_153 ?_
                    have r_149 : tfZ runx_152 := r_149
                    have hP : va_P (dC, dI) vwCl (wPW cI cJ cZ q pw co la vo cpar fr cdee use runx_152 nC tdue tlat twk nT edue elat ewk nE len cnt tin sp pe slp late srv hv av bd sh sc lt rule now st asl idl idn par div dee w) H := hP.sub [1, 2, 3, 4, 5, 6, 7, 8, 9, 10, 11, 12, 13, 14, 15, 16, 17, 18, 19, 20, 21, 22, 23, 24, 25, 26, 27, 28, 29, 0] (z_fm rfl)
                    have hD : va_D A (wPW cI cJ cZ q pw co la vo cpar fr cdee use runx_152 nC tdue tlat twk nT edue elat ewk nE len cnt tin sp pe slp late srv hv av bd sh sc lt rule now st asl idl idn par div dee w) := hD.sub [1, 2, 3, 4, 5, 6, 7, 8, 9, 10, 11, 12, 13, 14, 15, 16, 17, 18, 19, 20, 21, 22, 23, 24, 25, 26, 27, 28, 29, 0] (by decide) rfl
                    have hrun8 := r_149
                    refine lv_lload hx hb dL_changes_659 (lv_at hl 4 rfl) ?_
                    refine zl_sameN (tgt := 669) hx hb (by rfl) dL_changes_661 dL_changes_662 (by decide) ?_
                    refine lv_iconst (v := iI 1) hx hb dL_changes_665 rfl ?_
                    refine lv_goto (tgt := 670) hx hb dL_changes_666 (by decide) ?_
                    subst hQ
                    refine W.widen (k := 1) (n := 6) (by decide) (by decide) ?_
                    exact zret_z (W1 := fun u9 : (Int → Int) × (Int → Int) × (Int → Int) × (Int → Int) × (Int → Int) × Int × Int × Int × (Int → Int) × Int × (Int → Int) × Int × Int × (Int → Int) => wPW cI cJ cZ q (u9.1) (u9.2.1) (u9.2.2.1) (u9.2.2.2.1) cpar fr cdee use (u9.2.2.2.2.1) nC tdue tlat twk nT edue elat ewk nE (u9.2.2.2.2.2.2.2.2.2.2.1) (u9.2.2.2.2.2.2.2.2.2.2.2.1) tin (u9.2.2.2.2.2.2.1) (u9.2.2.2.2.2.2.2.1) slp late srv hv av bd sh sc lt (u9.2.2.2.2.2.2.2.2.2.2.2.2.1) now (u9.2.2.2.2.2.1) asl (u9.2.2.2.2.2.2.2.2.1) (u9.2.2.2.2.2.2.2.2.2.1) par div dee (u9.2.2.2.2.2.2.2.2.2.2.2.2.2)) (pw, co, la, vo, runx_152, st, sp, pe, idl, idn, len, cnt, rule, w) hx hb hr hP hD hS hlocks dL_changes_670 (by first | decide | omega) (by exact ⟨rfl, lj_mono (K2 := K + 200) (lj_run hI hrun8) (by omega)⟩)
                · skip
                  refine lv_iload hx hb dL_changes_637 (lv_at hl 1 rfl) ?_
                  refine zi_flt (tgt := 648) hx hb (by omega) dL_changes_639 (by decide) (fun c_154 => ?_) (fun c_154 => ?_)
                  · skip
                    refine lv_iload hx hb dL_changes_648 (lv_at hl 0 rfl) ?_
                    refine lv_bipush (v := iI (-82)) hx hb dL_changes_650 (by decide) ?_
                    refine zi_cne (tgt := 669) hx hb (by decide) (by decide) dL_changes_652 (by decide) (fun c_155 => ?_) (fun c_155 => ?_)
                    · skip
                      exact absurd c_155 (by decide)
                    · skip
                      refine lv_aload_n hx hb dL_changes_655 rfl (lv_at hl 8 rfl) ?_
                      refine zc_l (va_runS (As := [.ref (q 0)]) (rest := []) ⟨hx, hb, hml, hown, hts⟩ (kL_all l dC dI cI cJ cZ q pw co la vo cpar fr cdee use runx_5 nC tdue tlat twk nT edue elat ewk nE len cnt tin sp pe slp late srv hv av bd sh sc lt rule now st asl idl idn par div dee (by first | assumption | omega | exact b2i_01 _ | exact shr_r _ _) (by first | assumption | omega | exact b2i_01 _ | exact shr_r _ _) (by first | assumption | omega | exact b2i_01 _ | exact shr_r _ _) (by first | assumption | omega | exact b2i_01 _ | exact shr_r _ _) (by first | assumption | omega | exact b2i_01 _ | exact shr_r _ _) (by first | assumption | omega | exact b2i_01 _ | exact shr_r _ _) (by first | assumption | omega | exact b2i_01 _ | exact shr_r _ _) (by first | assumption | omega | exact b2i_01 _ | exact shr_r _ _) (by first | assumption | omega | exact b2i_01 _ | exact shr_r _ _) (by first | assumption | omega | exact b2i_01 _ | exact shr_r _ _) (by first | assumption | omega | exact b2i_01 _ | exact shr_r _ _) (by first | assumption | omega | exact b2i_01 _ | exact shr_r _ _) (by first | assumption | omega | exact b2i_01 _ | exact shr_r _ _) (by first | assumption | omega | exact b2i_01 _ | exact shr_r _ _) (by first | assumption | omega | exact b2i_01 _ | exact shr_r _ _) (by first | assumption | omega | exact b2i_01 _ | exact shr_r _ _) (by first | assumption | omega | exact b2i_01 _ | exact shr_r _ _) (by first | assumption | omega | exact b2i_01 _ | exact shr_r _ _) (by first | assumption | omega | exact b2i_01 _ | exact shr_r _ _) (by first | assumption | omega | exact b2i_01 _ | exact shr_r _ _) (by first | assumption | omega | exact b2i_01 _ | exact shr_r _ _) H.size) (va_cwS 1 hts gL_changes_L_all rfl rfl rfl (by decide +kernel) ⟨Nat.le_of_ble_eq_true rfl, Nat.le_of_ble_eq_true rfl⟩) (zpS hK hP hD [0, 1, 2, 3, 4, 5, 6, 7, 8, 9, 10, 11, 12, 13, 14, 15, 16, 17, 18, 19, 20, 21, 22, 23, 24, 25, 26, 27, 28] rfl rfl) rfl rfl hl.1 rfl (lv_room (Nat.le_of_ble_eq_true rfl)) dL_changes_656 ⟨Nat.le_of_ble_eq_true rfl, Nat.le_of_ble_eq_true rfl⟩) hP hD hS hA [0, 1, 2, 3, 4, 5, 6, 7, 8, 9, 10, 11, 12, 13, 14, 15, 16, 17, 18, 19, 20, 21, 22, 23, 24, 25, 26, 27, 28] [29] rfl rfl rfl (by decide) (fun v_158 u_157 H locs r_156 hP hD hS => ?_)
                      obtain ⟨runx_159, rfl⟩ : ∃ z, z = u_157 := ⟨_, rfl⟩
                      obtain ⟨v_160, r_156⟩ := r_156
                      refine ze_l v_160 ?_
                      have r_156 : tfZ runx_159 := r_156
                      have hP : va_P (dC, dI) vwCl (wPW cI cJ cZ q pw co la vo cpar fr cdee use runx_159 nC tdue tlat twk nT edue elat ewk nE len cnt tin sp pe slp late srv hv av bd sh sc lt rule now st asl idl idn par div dee w) H := hP.sub [1, 2, 3, 4, 5, 6, 7, 8, 9, 10, 11, 12, 13, 14, 15, 16, 17, 18, 19, 20, 21, 22, 23, 24, 25, 26, 27, 28, 29, 0] (z_fm rfl)
                      have hD : va_D A (wPW cI cJ cZ q pw co la vo cpar fr cdee use runx_159 nC tdue tlat twk nT edue elat ewk nE len cnt tin sp pe slp late srv hv av bd sh sc lt rule now st asl idl idn par div dee w) := hD.sub [1, 2, 3, 4, 5, 6, 7, 8, 9, 10, 11, 12, 13, 14, 15, 16, 17, 18, 19, 20, 21, 22, 23, 24, 25, 26, 27, 28, 29, 0] (by decide) rfl
                      have hrun8 := r_156
                      refine lv_lload hx hb dL_changes_659 (lv_at hl 4 rfl) ?_
                      refine zl_sameN (tgt := 669) hx hb (by rfl) dL_changes_661 dL_changes_662 (by decide) ?_
                      refine lv_iconst (v := iI 1) hx hb dL_changes_665 rfl ?_
                      refine lv_goto (tgt := 670) hx hb dL_changes_666 (by decide) ?_
                      subst hQ
                      refine W.widen (k := 1) (n := 6) (by decide) (by decide) ?_
                      exact zret_z (W1 := fun u9 : (Int → Int) × (Int → Int) × (Int → Int) × (Int → Int) × (Int → Int) × Int × Int × Int × (Int → Int) × Int × (Int → Int) × Int × Int × (Int → Int) => wPW cI cJ cZ q (u9.1) (u9.2.1) (u9.2.2.1) (u9.2.2.2.1) cpar fr cdee use (u9.2.2.2.2.1) nC tdue tlat twk nT edue elat ewk nE (u9.2.2.2.2.2.2.2.2.2.2.1) (u9.2.2.2.2.2.2.2.2.2.2.2.1) tin (u9.2.2.2.2.2.2.1) (u9.2.2.2.2.2.2.2.1) slp late srv hv av bd sh sc lt (u9.2.2.2.2.2.2.2.2.2.2.2.2.1) now (u9.2.2.2.2.2.1) asl (u9.2.2.2.2.2.2.2.2.1) (u9.2.2.2.2.2.2.2.2.2.1) par div dee (u9.2.2.2.2.2.2.2.2.2.2.2.2.2)) (pw, co, la, vo, runx_159, st, sp, pe, idl, idn, len, cnt, rule, w) hx hb hr hP hD hS hlocks dL_changes_670 (by first | decide | omega) (by exact ⟨rfl, lj_mono (K2 := K + 200) (lj_run hI hrun8) (by omega)⟩)
                  · skip
                    refine lv_iload hx hb dL_changes_642 (lv_at hl 1 rfl) ?_
                    refine lv_iconst (v := iI 3) hx hb dL_changes_644 rfl ?_
                    refine zi_cle (tgt := 671) hx hb (by omega) (by decide) dL_changes_645 (by decide) (fun c_161 => ?_) (fun c_161 => ?_)
                    · skip
                      exact absurd c_161 (by omega)
                    · skip
                      refine lv_iload hx hb dL_changes_648 (lv_at hl 0 rfl) ?_
                      refine lv_bipush (v := iI (-82)) hx hb dL_changes_650 (by decide) ?_
                      refine zi_cne (tgt := 669) hx hb (by decide) (by decide) dL_changes_652 (by decide) (fun c_162 => ?_) (fun c_162 => ?_)
                      · skip
                        exact absurd c_162 (by decide)
                      · skip
                        refine lv_aload_n hx hb dL_changes_655 rfl (lv_at hl 8 rfl) ?_
                        refine zc_l (va_runS (As := [.ref (q 0)]) (rest := []) ⟨hx, hb, hml, hown, hts⟩ (kL_all l dC dI cI cJ cZ q pw co la vo cpar fr cdee use runx_5 nC tdue tlat twk nT edue elat ewk nE len cnt tin sp pe slp late srv hv av bd sh sc lt rule now st asl idl idn par div dee (by first | assumption | omega | exact b2i_01 _ | exact shr_r _ _) (by first | assumption | omega | exact b2i_01 _ | exact shr_r _ _) (by first | assumption | omega | exact b2i_01 _ | exact shr_r _ _) (by first | assumption | omega | exact b2i_01 _ | exact shr_r _ _) (by first | assumption | omega | exact b2i_01 _ | exact shr_r _ _) (by first | assumption | omega | exact b2i_01 _ | exact shr_r _ _) (by first | assumption | omega | exact b2i_01 _ | exact shr_r _ _) (by first | assumption | omega | exact b2i_01 _ | exact shr_r _ _) (by first | assumption | omega | exact b2i_01 _ | exact shr_r _ _) (by first | assumption | omega | exact b2i_01 _ | exact shr_r _ _) (by first | assumption | omega | exact b2i_01 _ | exact shr_r _ _) (by first | assumption | omega | exact b2i_01 _ | exact shr_r _ _) (by first | assumption | omega | exact b2i_01 _ | exact shr_r _ _) (by first | assumption | omega | exact b2i_01 _ | exact shr_r _ _) (by first | assumption | omega | exact b2i_01 _ | exact shr_r _ _) (by first | assumption | omega | exact b2i_01 _ | exact shr_r _ _) (by first | assumption | omega | exact b2i_01 _ | exact shr_r _ _) (by first | assumption | omega | exact b2i_01 _ | exact shr_r _ _) (by first | assumption | omega | exact b2i_01 _ | exact shr_r _ _) (by first | assumption | omega | exact b2i_01 _ | exact shr_r _ _) (by first | assumption | omega | exact b2i_01 _ | exact shr_r _ _) H.size) (va_cwS 1 hts gL_changes_L_all rfl rfl rfl (by decide +kernel) ⟨Nat.le_of_ble_eq_true rfl, Nat.le_of_ble_eq_true rfl⟩) (zpS hK hP hD [0, 1, 2, 3, 4, 5, 6, 7, 8, 9, 10, 11, 12, 13, 14, 15, 16, 17, 18, 19, 20, 21, 22, 23, 24, 25, 26, 27, 28] rfl rfl) rfl rfl hl.1 rfl (lv_room (Nat.le_of_ble_eq_true rfl)) dL_changes_656 ⟨Nat.le_of_ble_eq_true rfl, Nat.le_of_ble_eq_true rfl⟩) hP hD hS hA [0, 1, 2, 3, 4, 5, 6, 7, 8, 9, 10, 11, 12, 13, 14, 15, 16, 17, 18, 19, 20, 21, 22, 23, 24, 25, 26, 27, 28] [29] rfl rfl rfl (by decide) (fun v_165 u_164 H locs r_163 hP hD hS => ?_)
                        obtain ⟨runx_166, rfl⟩ : ∃ z, z = u_164 := ⟨_, rfl⟩
                        obtain ⟨v_167, r_163⟩ := r_163
                        refine ze_l v_167 ?_
                        have r_163 : tfZ runx_166 := r_163
                        have hP : va_P (dC, dI) vwCl (wPW cI cJ cZ q pw co la vo cpar fr cdee use runx_166 nC tdue tlat twk nT edue elat ewk nE len cnt tin sp pe slp late srv hv av bd sh sc lt rule now st asl idl idn par div dee w) H := hP.sub [1, 2, 3, 4, 5, 6, 7, 8, 9, 10, 11, 12, 13, 14, 15, 16, 17, 18, 19, 20, 21, 22, 23, 24, 25, 26, 27, 28, 29, 0] (z_fm rfl)
                        have hD : va_D A (wPW cI cJ cZ q pw co la vo cpar fr cdee use runx_166 nC tdue tlat twk nT edue elat ewk nE len cnt tin sp pe slp late srv hv av bd sh sc lt rule now st asl idl idn par div dee w) := hD.sub [1, 2, 3, 4, 5, 6, 7, 8, 9, 10, 11, 12, 13, 14, 15, 16, 17, 18, 19, 20, 21, 22, 23, 24, 25, 26, 27, 28, 29, 0] (by decide) rfl
                        have hrun8 := r_163
                        refine lv_lload hx hb dL_changes_659 (lv_at hl 4 rfl) ?_
                        refine zl_sameN (tgt := 669) hx hb (by rfl) dL_changes_661 dL_changes_662 (by decide) ?_
                        refine lv_iconst (v := iI 1) hx hb dL_changes_665 rfl ?_
                        refine lv_goto (tgt := 670) hx hb dL_changes_666 (by decide) ?_
                        subst hQ
                        refine W.widen (k := 1) (n := 6) (by decide) (by decide) ?_
                        exact zret_z (W1 := fun u9 : (Int → Int) × (Int → Int) × (Int → Int) × (Int → Int) × (Int → Int) × Int × Int × Int × (Int → Int) × Int × (Int → Int) × Int × Int × (Int → Int) => wPW cI cJ cZ q (u9.1) (u9.2.1) (u9.2.2.1) (u9.2.2.2.1) cpar fr cdee use (u9.2.2.2.2.1) nC tdue tlat twk nT edue elat ewk nE (u9.2.2.2.2.2.2.2.2.2.2.1) (u9.2.2.2.2.2.2.2.2.2.2.2.1) tin (u9.2.2.2.2.2.2.1) (u9.2.2.2.2.2.2.2.1) slp late srv hv av bd sh sc lt (u9.2.2.2.2.2.2.2.2.2.2.2.2.1) now (u9.2.2.2.2.2.1) asl (u9.2.2.2.2.2.2.2.2.1) (u9.2.2.2.2.2.2.2.2.2.1) par div dee (u9.2.2.2.2.2.2.2.2.2.2.2.2.2)) (pw, co, la, vo, runx_166, st, sp, pe, idl, idn, len, cnt, rule, w) hx hb hr hP hD hS hlocks dL_changes_670 (by first | decide | omega) (by exact ⟨rfl, lj_mono (K2 := K + 200) (lj_run hI hrun8) (by omega)⟩)
          refine lv_iload_n hx hb dL_changes_586 rfl (lv_at hl 9 rfl) ?_
          refine zi_feq (tgt := 604) hx hb (by omega) dL_changes_587 (by decide) (fun c_168 => ?_) (fun c_168 => ?_)
          · skip
            refine lv_iload_n hx hb dL_changes_604 rfl (lv_at hl 8 rfl) ?_
            refine lv_bipush (v := iI 6) hx hb dL_changes_605 (by decide) ?_
            refine zi_shr hx hb dL_changes_607 ?_
            refine lv_iconst (v := iI 4) hx hb dL_changes_608 rfl ?_
            refine zc_pi (va_runS (As := [.int (iI (shrZ y 6)), .int (iI 4)]) (rest := []) ⟨hx, hb, hml, hown, hts⟩ (kL_some l dC dI cI cJ cZ (shrZ y 6) 4 (by first | assumption | omega | exact b2i_01 _ | exact shr_r _ _) (by first | assumption | omega | exact b2i_01 _ | exact shr_r _ _)) (va_cwS 2 hts gL_changes_L_some rfl rfl rfl (by decide +kernel) ⟨Nat.le_of_ble_eq_true rfl, Nat.le_of_ble_eq_true rfl⟩) (zqS hK hP [] rfl) rfl rfl hl.1 rfl (lv_room (Nat.le_of_ble_eq_true rfl)) dL_changes_609 ⟨Nat.le_of_ble_eq_true rfl, Nat.le_of_ble_eq_true rfl⟩) ?_
            have e_169 := sm_r (shrZ y 6) (show (0 : Int) < 4 by decide)
            exact L612 (smZ (shrZ y 6) 4) (by omega) H locs hP hD hS ls (lv_sub hl [0, 1, 2, 3, 4, 5, 6, 7, 8, 9] rfl)
          · skip
            refine lv_iload_n hx hb dL_changes_590 rfl (lv_at hl 8 rfl) ?_
            refine lv_bipush (v := iI 6) hx hb dL_changes_591 (by decide) ?_
            refine zi_shr hx hb dL_changes_593 ?_
            refine lv_bipush (v := iI 7) hx hb dL_changes_594 (by decide) ?_
            refine zc_pi (va_runS (As := [.int (iI (shrZ y 6)), .int (iI 7)]) (rest := []) ⟨hx, hb, hml, hown, hts⟩ (kL_some l dC dI cI cJ cZ (shrZ y 6) 7 (by first | assumption | omega | exact b2i_01 _ | exact shr_r _ _) (by first | assumption | omega | exact b2i_01 _ | exact shr_r _ _)) (va_cwS 2 hts gL_changes_L_some rfl rfl rfl (by decide +kernel) ⟨Nat.le_of_ble_eq_true rfl, Nat.le_of_ble_eq_true rfl⟩) (zqS hK hP [] rfl) rfl rfl hl.1 rfl (lv_room (Nat.le_of_ble_eq_true rfl)) dL_changes_596 ⟨Nat.le_of_ble_eq_true rfl, Nat.le_of_ble_eq_true rfl⟩) ?_
            have e_170 := sm_r (shrZ y 6) (show (0 : Int) < 7 by decide)
            refine lv_iconst (v := iI 1) hx hb dL_changes_599 rfl ?_
            refine zi_sub hx hb dL_changes_600 ?_
            refine lv_goto (tgt := 612) hx hb dL_changes_601 (by decide) ?_
            exact L612 ((smZ (shrZ y 6) 7) - 1) (by omega) H locs hP hD hS ls (lv_sub hl [0, 1, 2, 3, 4, 5, 6, 7, 8, 9] rfl)
        refine lv_iload_n hx hb dL_changes_559 rfl (lv_at hl 8 rfl) ?_
        refine zi_feq (tgt := 576) hx hb (by omega) dL_changes_560 (by decide) (fun c_171 => ?_) (fun c_171 => ?_)
        · skip
          refine lv_iload_n hx hb dL_changes_576 rfl (lv_at hl 7 rfl) ?_
          refine lv_iconst (v := iI 3) hx hb dL_changes_577 rfl ?_
          refine zi_shr hx hb dL_changes_578 ?_
          refine lv_bipush (v := iI 6) hx hb dL_changes_579 (by decide) ?_
          refine zc_pi (va_runS (As := [.int (iI (shrZ y 3)), .int (iI 6)]) (rest := []) ⟨hx, hb, hml, hown, hts⟩ (kL_some l dC dI cI cJ cZ (shrZ y 3) 6 (by first | assumption | omega | exact b2i_01 _ | exact shr_r _ _) (by first | assumption | omega | exact b2i_01 _ | exact shr_r _ _)) (va_cwS 2 hts gL_changes_L_some rfl rfl rfl (by decide +kernel) ⟨Nat.le_of_ble_eq_true rfl, Nat.le_of_ble_eq_true rfl⟩) (zqS hK hP [] rfl) rfl rfl hl.1 rfl (lv_room (Nat.le_of_ble_eq_true rfl)) dL_changes_581 ⟨Nat.le_of_ble_eq_true rfl, Nat.le_of_ble_eq_true rfl⟩) ?_
          have e_172 := sm_r (shrZ y 3) (show (0 : Int) < 6 by decide)
          exact L584 (smZ (shrZ y 3) 6) (by omega) H locs hP hD hS ls (lv_sub hl [0, 1, 2, 3, 4, 5, 6, 7, 8] rfl)
        · skip
          refine lv_iload_n hx hb dL_changes_563 rfl (lv_at hl 7 rfl) ?_
          refine lv_iconst (v := iI 3) hx hb dL_changes_564 rfl ?_
          refine zi_shr hx hb dL_changes_565 ?_
          refine lv_bipush (v := iI 9) hx hb dL_changes_566 (by decide) ?_
          refine zc_pi (va_runS (As := [.int (iI (shrZ y 3)), .int (iI 9)]) (rest := []) ⟨hx, hb, hml, hown, hts⟩ (kL_some l dC dI cI cJ cZ (shrZ y 3) 9 (by first | assumption | omega | exact b2i_01 _ | exact shr_r _ _) (by first | assumption | omega | exact b2i_01 _ | exact shr_r _ _)) (va_cwS 2 hts gL_changes_L_some rfl rfl rfl (by decide +kernel) ⟨Nat.le_of_ble_eq_true rfl, Nat.le_of_ble_eq_true rfl⟩) (zqS hK hP [] rfl) rfl rfl hl.1 rfl (lv_room (Nat.le_of_ble_eq_true rfl)) dL_changes_568 ⟨Nat.le_of_ble_eq_true rfl, Nat.le_of_ble_eq_true rfl⟩) ?_
          have e_173 := sm_r (shrZ y 3) (show (0 : Int) < 9 by decide)
          refine lv_iconst (v := iI 1) hx hb dL_changes_571 rfl ?_
          refine zi_sub hx hb dL_changes_572 ?_
          refine lv_goto (tgt := 584) hx hb dL_changes_573 (by decide) ?_
          exact L584 ((smZ (shrZ y 3) 9) - 1) (by omega) H locs hP hD hS ls (lv_sub hl [0, 1, 2, 3, 4, 5, 6, 7, 8] rfl)
    · skip
      have L465 : ∀ (a1 : Int), (zR a1) → ∀ (H : Heap) (locs : List Loc), va_P (dC, dI) vwCl (wPW cI cJ cZ q pw co la vo cpar fr cdee use runx_5 nC tdue tlat twk nT edue elat ewk nE len cnt tin sp pe slp late srv hv av bd sh sc lt rule now st asl idl idn par div dee w) H → va_D A (wPW cI cJ cZ q pw co la vo cpar fr cdee use runx_5 nC tdue tlat twk nT edue elat ewk nE len cnt tin sp pe slp late srv hv av bd sh sc lt rule now st asl idl idn par div dee w) → va_S A s.heap H locs → ∀ ls : Array Slot, lv_has ls 17 [(10, .int (iI ((pw 0) * (la st)))), (8, .long (lI (alZ pw co la vo use nC tdue tlat nT tin sp slp late srv av bd sh now st par dee))), (6, .long (lI sp)), (5, .int (iI st)), (4, .int (iI (smZ y 8))), (0, .ref (q 0)), (1, .ref (q 29)), (2, .int (iI y)), (3, .int (iI od))] → W p l e rmL_changes s m ([.ref (q 0), .ref (q 29), .int (iI y), .int (iI od)] : List Value).toArray below meth c H locs 0 0 Q (F0 m 465 ls [.int (iI a1)]) := by
        intro a1 ha1 H locs hP hD hS ls hl
        refine lv_istore (lv' := [(11, .int (iI a1)), (10, .int (iI ((pw 0) * (la st)))), (8, .long (lI (alZ pw co la vo use nC tdue tlat nT tin sp slp late srv av bd sh now st par dee))), (6, .long (lI sp)), (5, .int (iI st)), (4, .int (iI (smZ y 8))), (0, .ref (q 0)), (1, .ref (q 29)), (2, .int (iI y)), (3, .int (iI od))]) hx hb dL_changes_465 hl (by decide) rfl (fun ls hl => ?_)
        refine lv_iload hx hb dL_changes_467 (lv_at hl 0 rfl) ?_
        refine zi_flt (tgt := 480) hx hb (by omega) dL_changes_469 (by decide) (fun c_174 => ?_) (fun c_174 => ?_)
        · skip
          refine lv_aload_n hx hb dL_changes_480 rfl (lv_at hl 6 rfl) ?_
          refine lv_iconst (v := iI 0) hx hb dL_changes_481 rfl ?_
          refine lv_iload hx hb dL_changes_482 (lv_at hl 0 rfl) ?_
          refine lv_iconst (v := iI 0) hx hb dL_changes_484 rfl ?_
          refine lv_iconst (v := iI 0) hx hb dL_changes_485 rfl ?_
          refine zc_i (vx_runSW (As := [.ref (q 0), .int (iI 0), .int (iI a1), .int (iI 0), .int (iI 0)]) (rest := []) ⟨hx, hb, hml, hown, hts⟩ (kL_sets_bad0 l dC dI cI cJ cZ q pw co la vo cpar fr cdee use runx_5 nC tdue tlat twk nT edue elat ewk nE len cnt tin sp pe slp late srv hv av bd sh sc lt rule now st asl idl idn par div dee a1 (by first | assumption | omega | exact b2i_01 _ | exact shr_r _ _) (by first | assumption | omega | exact b2i_01 _ | exact shr_r _ _) (by first | assumption | omega | exact b2i_01 _ | exact shr_r _ _) (by first | assumption | omega | exact b2i_01 _ | exact shr_r _ _) (by first | assumption | omega | exact b2i_01 _ | exact shr_r _ _) (by first | assumption | omega | exact b2i_01 _ | exact shr_r _ _) (by first | assumption | omega | exact b2i_01 _ | exact shr_r _ _) (by first | assumption | omega | exact b2i_01 _ | exact shr_r _ _) (by first | assumption | omega | exact b2i_01 _ | exact shr_r _ _) (by first | assumption | omega | exact b2i_01 _ | exact shr_r _ _) (by first | assumption | omega | exact b2i_01 _ | exact shr_r _ _) htr H.size) (vx_cwSW 5 hts gL_changes_L_sets rfl rfl rfl (by decide +kernel) ⟨Nat.le_of_ble_eq_true rfl, Nat.le_of_ble_eq_true rfl⟩) (zyS hY hX hS hA hK hP hD [0, 1, 2, 3, 4, 5, 6, 7, 8, 9, 10, 11, 12, 13, 14, 15, 16, 17, 18, 19, 20, 21, 22, 23, 24, 25, 26, 27, 28] rfl rfl) rfl rfl hl.1 rfl (lv_room (Nat.le_of_ble_eq_true rfl)) dL_changes_486 ⟨Nat.le_of_ble_eq_true rfl, Nat.le_of_ble_eq_true rfl⟩) hP hD hS hA [0, 1, 2, 3, 4, 5, 6, 7, 8, 9, 10, 11, 12, 13, 14, 15, 16, 17, 18, 19, 20, 21, 22, 23, 24, 25, 26, 27, 28] [29] rfl rfl rfl (by decide) (fun v_177 u_176 H locs r_175 hP hD hS => ?_)
          refine ze_i r_175 ?_
          have hP : va_P (dC, dI) vwCl (wPW cI cJ cZ q pw co la vo cpar fr cdee use runx_5 nC tdue tlat twk nT edue elat ewk nE len cnt tin sp pe slp late srv hv av bd sh sc lt rule now st asl idl idn par div dee w) H := hP.sub [1, 2, 3, 4, 5, 6, 7, 8, 9, 10, 11, 12, 13, 14, 15, 16, 17, 18, 19, 20, 21, 22, 23, 24, 25, 26, 27, 28, 29, 0] (z_fm rfl)
          have hD : va_D A (wPW cI cJ cZ q pw co la vo cpar fr cdee use runx_5 nC tdue tlat twk nT edue elat ewk nE len cnt tin sp pe slp late srv hv av bd sh sc lt rule now st asl idl idn par div dee w) := hD.sub [1, 2, 3, 4, 5, 6, 7, 8, 9, 10, 11, 12, 13, 14, 15, 16, 17, 18, 19, 20, 21, 22, 23, 24, 25, 26, 27, 28, 29, 0] (by decide) rfl
          refine lv_bipush (v := iI (-82)) hx hb dL_changes_489 (by decide) ?_
          refine zi_cne (tgt := 508) hx hb (by decide) (by decide) dL_changes_491 (by decide) (fun c_178 => ?_) (fun c_178 => ?_)
          · skip
            exact absurd c_178 (by decide)
          · skip
            refine lv_aload_n hx hb dL_changes_494 rfl (lv_at hl 6 rfl) ?_
            refine zc_l (va_runS (As := [.ref (q 0)]) (rest := []) ⟨hx, hb, hml, hown, hts⟩ (kL_all l dC dI cI cJ cZ q pw co la vo cpar fr cdee use runx_5 nC tdue tlat twk nT edue elat ewk nE len cnt tin sp pe slp late srv hv av bd sh sc lt rule now st asl idl idn par div dee (by first | assumption | omega | exact b2i_01 _ | exact shr_r _ _) (by first | assumption | omega | exact b2i_01 _ | exact shr_r _ _) (by first | assumption | omega | exact b2i_01 _ | exact shr_r _ _) (by first | assumption | omega | exact b2i_01 _ | exact shr_r _ _) (by first | assumption | omega | exact b2i_01 _ | exact shr_r _ _) (by first | assumption | omega | exact b2i_01 _ | exact shr_r _ _) (by first | assumption | omega | exact b2i_01 _ | exact shr_r _ _) (by first | assumption | omega | exact b2i_01 _ | exact shr_r _ _) (by first | assumption | omega | exact b2i_01 _ | exact shr_r _ _) (by first | assumption | omega | exact b2i_01 _ | exact shr_r _ _) (by first | assumption | omega | exact b2i_01 _ | exact shr_r _ _) (by first | assumption | omega | exact b2i_01 _ | exact shr_r _ _) (by first | assumption | omega | exact b2i_01 _ | exact shr_r _ _) (by first | assumption | omega | exact b2i_01 _ | exact shr_r _ _) (by first | assumption | omega | exact b2i_01 _ | exact shr_r _ _) (by first | assumption | omega | exact b2i_01 _ | exact shr_r _ _) (by first | assumption | omega | exact b2i_01 _ | exact shr_r _ _) (by first | assumption | omega | exact b2i_01 _ | exact shr_r _ _) (by first | assumption | omega | exact b2i_01 _ | exact shr_r _ _) (by first | assumption | omega | exact b2i_01 _ | exact shr_r _ _) (by first | assumption | omega | exact b2i_01 _ | exact shr_r _ _) H.size) (va_cwS 1 hts gL_changes_L_all rfl rfl rfl (by decide +kernel) ⟨Nat.le_of_ble_eq_true rfl, Nat.le_of_ble_eq_true rfl⟩) (zpS hK hP hD [0, 1, 2, 3, 4, 5, 6, 7, 8, 9, 10, 11, 12, 13, 14, 15, 16, 17, 18, 19, 20, 21, 22, 23, 24, 25, 26, 27, 28] rfl rfl) rfl rfl hl.1 rfl (lv_room (Nat.le_of_ble_eq_true rfl)) dL_changes_495 ⟨Nat.le_of_ble_eq_true rfl, Nat.le_of_ble_eq_true rfl⟩) hP hD hS hA [0, 1, 2, 3, 4, 5, 6, 7, 8, 9, 10, 11, 12, 13, 14, 15, 16, 17, 18, 19, 20, 21, 22, 23, 24, 25, 26, 27, 28] [29] rfl rfl rfl (by decide) (fun v_181 u_180 H locs r_179 hP hD hS => ?_)
            obtain ⟨runx_182, rfl⟩ : ∃ z, z = u_180 := ⟨_, rfl⟩
            obtain ⟨v_183, r_179⟩ := r_179
            refine ze_l v_183 ?_
            have r_179 : tfZ runx_182 := r_179
            have hP : va_P (dC, dI) vwCl (wPW cI cJ cZ q pw co la vo cpar fr cdee use runx_182 nC tdue tlat twk nT edue elat ewk nE len cnt tin sp pe slp late srv hv av bd sh sc lt rule now st asl idl idn par div dee w) H := hP.sub [1, 2, 3, 4, 5, 6, 7, 8, 9, 10, 11, 12, 13, 14, 15, 16, 17, 18, 19, 20, 21, 22, 23, 24, 25, 26, 27, 28, 29, 0] (z_fm rfl)
            have hD : va_D A (wPW cI cJ cZ q pw co la vo cpar fr cdee use runx_182 nC tdue tlat twk nT edue elat ewk nE len cnt tin sp pe slp late srv hv av bd sh sc lt rule now st asl idl idn par div dee w) := hD.sub [1, 2, 3, 4, 5, 6, 7, 8, 9, 10, 11, 12, 13, 14, 15, 16, 17, 18, 19, 20, 21, 22, 23, 24, 25, 26, 27, 28, 29, 0] (by decide) rfl
            have hrun8 := r_179
            refine lv_lload hx hb dL_changes_498 (lv_at hl 2 rfl) ?_
            refine zl_sameN (tgt := 508) hx hb (by rfl) dL_changes_500 dL_changes_501 (by decide) ?_
            refine lv_iconst (v := iI 1) hx hb dL_changes_504 rfl ?_
            refine lv_goto (tgt := 509) hx hb dL_changes_505 (by decide) ?_
            subst hQ
            refine W.widen (k := 1) (n := 6) (by decide) (by decide) ?_
            exact zret_z (W1 := fun u9 : (Int → Int) × (Int → Int) × (Int → Int) × (Int → Int) × (Int → Int) × Int × Int × Int × (Int → Int) × Int × (Int → Int) × Int × Int × (Int → Int) => wPW cI cJ cZ q (u9.1) (u9.2.1) (u9.2.2.1) (u9.2.2.2.1) cpar fr cdee use (u9.2.2.2.2.1) nC tdue tlat twk nT edue elat ewk nE (u9.2.2.2.2.2.2.2.2.2.2.1) (u9.2.2.2.2.2.2.2.2.2.2.2.1) tin (u9.2.2.2.2.2.2.1) (u9.2.2.2.2.2.2.2.1) slp late srv hv av bd sh sc lt (u9.2.2.2.2.2.2.2.2.2.2.2.2.1) now (u9.2.2.2.2.2.1) asl (u9.2.2.2.2.2.2.2.2.1) (u9.2.2.2.2.2.2.2.2.2.1) par div dee (u9.2.2.2.2.2.2.2.2.2.2.2.2.2)) (pw, co, la, vo, runx_182, st, sp, pe, idl, idn, len, cnt, rule, w) hx hb hr hP hD hS hlocks dL_changes_509 (by first | decide | omega) (by exact ⟨rfl, lj_mono (K2 := K + 200) (lj_run hI hrun8) (by omega)⟩)
        · skip
          refine lv_iload hx hb dL_changes_472 (lv_at hl 0 rfl) ?_
          refine lv_sipush (v := iI 1000) hx hb dL_changes_474 (by decide) ?_
          refine zi_cle (tgt := 510) hx hb (by omega) (by decide) dL_changes_477 (by decide) (fun c_184 => ?_) (fun c_184 => ?_)
          · skip
            refine lv_aload_n hx hb dL_changes_510 rfl (lv_at hl 6 rfl) ?_
            refine lv_iconst (v := iI 0) hx hb dL_changes_511 rfl ?_
            refine lv_iload hx hb dL_changes_512 (lv_at hl 0 rfl) ?_
            refine lv_iconst (v := iI 0) hx hb dL_changes_514 rfl ?_
            refine lv_iconst (v := iI 0) hx hb dL_changes_515 rfl ?_
            refine zc_i (vx_runSW (As := [.ref (q 0), .int (iI 0), .int (iI a1), .int (iI 0), .int (iI 0)]) (rest := []) ⟨hx, hb, hml, hown, hts⟩ (kL_sets_ok0 l dC dI cI cJ cZ q pw co la vo cpar fr cdee use runx_5 nC tdue tlat twk nT edue elat ewk nE len cnt tin sp pe slp late srv hv av bd sh sc lt rule now st asl idl idn par div dee a1 (by first | assumption | omega | exact b2i_01 _ | exact shr_r _ _) (by first | assumption | omega | exact b2i_01 _ | exact shr_r _ _) (by first | assumption | omega | exact b2i_01 _ | exact shr_r _ _) (by first | assumption | omega | exact b2i_01 _ | exact shr_r _ _) (by first | assumption | omega | exact b2i_01 _ | exact shr_r _ _) (by first | assumption | omega | exact b2i_01 _ | exact shr_r _ _) (by first | assumption | omega | exact b2i_01 _ | exact shr_r _ _) (by first | assumption | omega | exact b2i_01 _ | exact shr_r _ _) (by first | assumption | omega | exact b2i_01 _ | exact shr_r _ _) (by first | assumption | omega | exact b2i_01 _ | exact shr_r _ _) (by first | assumption | omega | exact b2i_01 _ | exact shr_r _ _) H.size) (vx_cwSW 5 hts gL_changes_L_sets rfl rfl rfl (by decide +kernel) ⟨Nat.le_of_ble_eq_true rfl, Nat.le_of_ble_eq_true rfl⟩) (zpS hK hP hD [0, 1, 2, 3, 4, 5, 6, 7, 8, 9, 10, 11, 12, 13, 14, 15, 16, 17, 18, 19, 20, 21, 22, 23, 24, 25, 26, 27, 28] rfl rfl) rfl rfl hl.1 rfl (lv_room (Nat.le_of_ble_eq_true rfl)) dL_changes_516 ⟨Nat.le_of_ble_eq_true rfl, Nat.le_of_ble_eq_true rfl⟩) hP hD hS hA [0, 1, 2, 3, 4, 5, 6, 7, 8, 9, 10, 11, 12, 13, 14, 15, 16, 17, 18, 19, 20, 21, 22, 23, 24, 25, 26, 27, 28] [29] rfl rfl rfl (by decide) (fun v_187 u_186 H locs r_185 hP hD hS => ?_)
            obtain ⟨stx_188, spx_189, pex_190, idlx_191, idnx_192, lenx_193, cntx_194⟩ := u_186
            obtain ⟨v_195, r_185⟩ := r_185
            refine ze_i v_195 ?_
            have r_185 : (stx_188, spx_189, pex_190, idlx_191, idnx_192) = scF pw la st asl now sp pe idl idn ∧ idR lenx_193 cntx_194 idlx_191 idnx_192 := r_185
            have hP : va_P (dC, dI) vwCl (wPW cI cJ cZ q (uZ pw 0 a1) co la vo cpar fr cdee use runx_5 nC tdue tlat twk nT edue elat ewk nE lenx_193 cntx_194 tin spx_189 pex_190 slp late srv hv av bd sh sc lt rule now stx_188 asl idlx_191 idnx_192 par div dee w) H := hP.sub [1, 2, 3, 4, 5, 6, 7, 8, 9, 10, 11, 12, 13, 14, 15, 16, 17, 18, 19, 20, 21, 22, 23, 24, 25, 26, 27, 28, 29, 0] (z_fm rfl)
            have hD : va_D A (wPW cI cJ cZ q (uZ pw 0 a1) co la vo cpar fr cdee use runx_5 nC tdue tlat twk nT edue elat ewk nE lenx_193 cntx_194 tin spx_189 pex_190 slp late srv hv av bd sh sc lt rule now stx_188 asl idlx_191 idnx_192 par div dee w) := hD.sub [1, 2, 3, 4, 5, 6, 7, 8, 9, 10, 11, 12, 13, 14, 15, 16, 17, 18, 19, 20, 21, 22, 23, 24, 25, 26, 27, 28, 29, 0] (by decide) rfl
            obtain ⟨hsc9, hid9⟩ := r_185
            have hwk9 := sc_f hsc9
            have hI6 := lj_sc hI5 (by omega) hsc9 hid9
            have hI8 := lj_mono (K2 := K + 200) (lj_awake hI6 (x1 := a1) (by omega)) (by omega)
            refine lv_aload_n hx hb dL_changes_519 rfl (lv_at hl 7 rfl) ?_
            refine lv_iconst (v := iI 0) hx hb dL_changes_520 rfl ?_
            refine za_ld hx hb hK hP 29 0 rfl rfl (by omega) (by omega) dL_changes_521 ?_
            refine zi_sameN (tgt := 542) hx hb (by exact (hw0 0 (by omega) (by omega)).symm) dL_changes_522 (by decide) ?_
            refine lv_aload_n hx hb dL_changes_525 rfl (lv_at hl 6 rfl) ?_
            refine lv_iload hx hb dL_changes_526 (lv_at hl 4 rfl) ?_
            refine lv_lload hx hb dL_changes_528 (lv_at hl 3 rfl) ?_
            refine lv_iload hx hb dL_changes_530 (lv_at hl 1 rfl) ?_
            refine zc_pi (va_runS (As := [.ref (q 0), .int (iI st), .long (lI sp), .int (iI ((pw 0) * (la st)))]) (rest := []) ⟨hx, hb, hml, hown, hts⟩ (kL_woke l dC dI cI cJ cZ q (uZ pw 0 a1) co la vo cpar fr cdee use runx_5 nC tdue tlat twk nT edue elat ewk nE lenx_193 cntx_194 tin spx_189 pex_190 slp late srv hv av bd sh sc lt rule now stx_188 asl idlx_191 idnx_192 par div dee st sp ((pw 0) * (la st)) (hwk9.1) (hwk9.2) (by first | assumption | omega | exact b2i_01 _ | exact shr_r _ _) (by first | assumption | omega | exact b2i_01 _ | exact shr_r _ _)) (va_cwS 4 hts gL_changes_L_woke rfl rfl rfl (by decide +kernel) ⟨Nat.le_of_ble_eq_true rfl, Nat.le_of_ble_eq_true rfl⟩) (zqS hK hP [0, 1, 2, 3, 4, 5, 6, 7, 8, 9, 10, 11, 12, 13, 14, 15, 16, 17, 18, 19, 20, 21, 22, 23, 24, 25, 26, 27, 28] rfl) rfl rfl hl.1 rfl (lv_room (Nat.le_of_ble_eq_true rfl)) dL_changes_532 ⟨Nat.le_of_ble_eq_true rfl, Nat.le_of_ble_eq_true rfl⟩) ?_
            refine zi_feq (tgt := 542) hx hb (by decide) dL_changes_535 (by decide) (fun c_196 => ?_) (fun c_196 => ?_)
            · skip
              exact absurd c_196 (by decide)
            · skip
              refine lv_iconst (v := iI 1) hx hb dL_changes_538 rfl ?_
              refine lv_goto (tgt := 543) hx hb dL_changes_539 (by decide) ?_
              refine lv_istore (lv' := [(12, .int (iI 1)), (11, .int (iI a1)), (10, .int (iI ((pw 0) * (la st)))), (8, .long (lI (alZ pw co la vo use nC tdue tlat nT tin sp slp late srv av bd sh now st par dee))), (6, .long (lI sp)), (5, .int (iI st)), (4, .int (iI (smZ y 8))), (0, .ref (q 0)), (1, .ref (q 29)), (2, .int (iI y)), (3, .int (iI od))]) hx hb dL_changes_543 hl (by decide) rfl (fun ls hl => ?_)
              refine lv_aload_n hx hb dL_changes_545 rfl (lv_at hl 8 rfl) ?_
              refine lv_iconst (v := iI 0) hx hb dL_changes_546 rfl ?_
              refine lv_iload hx hb dL_changes_547 (lv_at hl 1 rfl) ?_
              refine za_st hx hb hK hP hD hS 29 0 rfl rfl (by omega) (by omega) dL_changes_549 (fun H locs hP hD hS => ?_)
              have hP : va_P (dC, dI) vwCl (wPW cI cJ cZ q (uZ pw 0 a1) co la vo cpar fr cdee use runx_5 nC tdue tlat twk nT edue elat ewk nE lenx_193 cntx_194 tin spx_189 pex_190 slp late srv hv av bd sh sc lt rule now stx_188 asl idlx_191 idnx_192 par div dee (uZ w 0 a1)) H := hP
              have hD : va_D A (wPW cI cJ cZ q (uZ pw 0 a1) co la vo cpar fr cdee use runx_5 nC tdue tlat twk nT edue elat ewk nE lenx_193 cntx_194 tin spx_189 pex_190 slp late srv hv av bd sh sc lt rule now stx_188 asl idlx_191 idnx_192 par div dee (uZ w 0 a1)) := hD
              refine lv_iload hx hb dL_changes_550 (lv_at hl 0 rfl) ?_
              subst hQ
              refine W.widen (k := 1) (n := 6) (by decide) (by decide) ?_
              exact zret_z (W1 := fun u9 : (Int → Int) × (Int → Int) × (Int → Int) × (Int → Int) × (Int → Int) × Int × Int × Int × (Int → Int) × Int × (Int → Int) × Int × Int × (Int → Int) => wPW cI cJ cZ q (u9.1) (u9.2.1) (u9.2.2.1) (u9.2.2.2.1) cpar fr cdee use (u9.2.2.2.2.1) nC tdue tlat twk nT edue elat ewk nE (u9.2.2.2.2.2.2.2.2.2.2.1) (u9.2.2.2.2.2.2.2.2.2.2.2.1) tin (u9.2.2.2.2.2.2.1) (u9.2.2.2.2.2.2.2.1) slp late srv hv av bd sh sc lt (u9.2.2.2.2.2.2.2.2.2.2.2.2.1) now (u9.2.2.2.2.2.1) asl (u9.2.2.2.2.2.2.2.2.1) (u9.2.2.2.2.2.2.2.2.2.1) par div dee (u9.2.2.2.2.2.2.2.2.2.2.2.2.2)) (uZ pw 0 a1, co, la, vo, runx_5, stx_188, spx_189, pex_190, idlx_191, idnx_192, lenx_193, cntx_194, rule, uZ w 0 a1) hx hb hr hP hD hS hlocks dL_changes_552 (by first | decide | omega) (by exact ⟨rfl, hI8⟩)
          · skip
            refine lv_aload_n hx hb dL_changes_480 rfl (lv_at hl 6 rfl) ?_
            refine lv_iconst (v := iI 0) hx hb dL_changes_481 rfl ?_
            refine lv_iload hx hb dL_changes_482 (lv_at hl 0 rfl) ?_
            refine lv_iconst (v := iI 0) hx hb dL_changes_484 rfl ?_
            refine lv_iconst (v := iI 0) hx hb dL_changes_485 rfl ?_
            refine zc_i (vx_runSW (As := [.ref (q 0), .int (iI 0), .int (iI a1), .int (iI 0), .int (iI 0)]) (rest := []) ⟨hx, hb, hml, hown, hts⟩ (kL_sets_bad0 l dC dI cI cJ cZ q pw co la vo cpar fr cdee use runx_5 nC tdue tlat twk nT edue elat ewk nE len cnt tin sp pe slp late srv hv av bd sh sc lt rule now st asl idl idn par div dee a1 (by first | assumption | omega | exact b2i_01 _ | exact shr_r _ _) (by first | assumption | omega | exact b2i_01 _ | exact shr_r _ _) (by first | assumption | omega | exact b2i_01 _ | exact shr_r _ _) (by first | assumption | omega | exact b2i_01 _ | exact shr_r _ _) (by first | assumption | omega | exact b2i_01 _ | exact shr_r _ _) (by first | assumption | omega | exact b2i_01 _ | exact shr_r _ _) (by first | assumption | omega | exact b2i_01 _ | exact shr_r _ _) (by first | assumption | omega | exact b2i_01 _ | exact shr_r _ _) (by first | assumption | omega | exact b2i_01 _ | exact shr_r _ _) (by first | assumption | omega | exact b2i_01 _ | exact shr_r _ _) (by first | assumption | omega | exact b2i_01 _ | exact shr_r _ _) htr H.size) (vx_cwSW 5 hts gL_changes_L_sets rfl rfl rfl (by decide +kernel) ⟨Nat.le_of_ble_eq_true rfl, Nat.le_of_ble_eq_true rfl⟩) (zyS hY hX hS hA hK hP hD [0, 1, 2, 3, 4, 5, 6, 7, 8, 9, 10, 11, 12, 13, 14, 15, 16, 17, 18, 19, 20, 21, 22, 23, 24, 25, 26, 27, 28] rfl rfl) rfl rfl hl.1 rfl (lv_room (Nat.le_of_ble_eq_true rfl)) dL_changes_486 ⟨Nat.le_of_ble_eq_true rfl, Nat.le_of_ble_eq_true rfl⟩) hP hD hS hA [0, 1, 2, 3, 4, 5, 6, 7, 8, 9, 10, 11, 12, 13, 14, 15, 16, 17, 18, 19, 20, 21, 22, 23, 24, 25, 26, 27, 28] [29] rfl rfl rfl (by decide) (fun v_199 u_198 H locs r_197 hP hD hS => ?_)
            refine ze_i r_197 ?_
            have hP : va_P (dC, dI) vwCl (wPW cI cJ cZ q pw co la vo cpar fr cdee use runx_5 nC tdue tlat twk nT edue elat ewk nE len cnt tin sp pe slp late srv hv av bd sh sc lt rule now st asl idl idn par div dee w) H := hP.sub [1, 2, 3, 4, 5, 6, 7, 8, 9, 10, 11, 12, 13, 14, 15, 16, 17, 18, 19, 20, 21, 22, 23, 24, 25, 26, 27, 28, 29, 0] (z_fm rfl)
            have hD : va_D A (wPW cI cJ cZ q pw co la vo cpar fr cdee use runx_5 nC tdue tlat twk nT edue elat ewk nE len cnt tin sp pe slp late srv hv av bd sh sc lt rule now st asl idl idn par div dee w) := hD.sub [1, 2, 3, 4, 5, 6, 7, 8, 9, 10, 11, 12, 13, 14, 15, 16, 17, 18, 19, 20, 21, 22, 23, 24, 25, 26, 27, 28, 29, 0] (by decide) rfl
            refine lv_bipush (v := iI (-82)) hx hb dL_changes_489 (by decide) ?_
            refine zi_cne (tgt := 508) hx hb (by decide) (by decide) dL_changes_491 (by decide) (fun c_200 => ?_) (fun c_200 => ?_)
            · skip
              exact absurd c_200 (by decide)
            · skip
              refine lv_aload_n hx hb dL_changes_494 rfl (lv_at hl 6 rfl) ?_
              refine zc_l (va_runS (As := [.ref (q 0)]) (rest := []) ⟨hx, hb, hml, hown, hts⟩ (kL_all l dC dI cI cJ cZ q pw co la vo cpar fr cdee use runx_5 nC tdue tlat twk nT edue elat ewk nE len cnt tin sp pe slp late srv hv av bd sh sc lt rule now st asl idl idn par div dee (by first | assumption | omega | exact b2i_01 _ | exact shr_r _ _) (by first | assumption | omega | exact b2i_01 _ | exact shr_r _ _) (by first | assumption | omega | exact b2i_01 _ | exact shr_r _ _) (by first | assumption | omega | exact b2i_01 _ | exact shr_r _ _) (by first | assumption | omega | exact b2i_01 _ | exact shr_r _ _) (by first | assumption | omega | exact b2i_01 _ | exact shr_r _ _) (by first | assumption | omega | exact b2i_01 _ | exact shr_r _ _) (by first | assumption | omega | exact b2i_01 _ | exact shr_r _ _) (by first | assumption | omega | exact b2i_01 _ | exact shr_r _ _) (by first | assumption | omega | exact b2i_01 _ | exact shr_r _ _) (by first | assumption | omega | exact b2i_01 _ | exact shr_r _ _) (by first | assumption | omega | exact b2i_01 _ | exact shr_r _ _) (by first | assumption | omega | exact b2i_01 _ | exact shr_r _ _) (by first | assumption | omega | exact b2i_01 _ | exact shr_r _ _) (by first | assumption | omega | exact b2i_01 _ | exact shr_r _ _) (by first | assumption | omega | exact b2i_01 _ | exact shr_r _ _) (by first | assumption | omega | exact b2i_01 _ | exact shr_r _ _) (by first | assumption | omega | exact b2i_01 _ | exact shr_r _ _) (by first | assumption | omega | exact b2i_01 _ | exact shr_r _ _) (by first | assumption | omega | exact b2i_01 _ | exact shr_r _ _) (by first | assumption | omega | exact b2i_01 _ | exact shr_r _ _) H.size) (va_cwS 1 hts gL_changes_L_all rfl rfl rfl (by decide +kernel) ⟨Nat.le_of_ble_eq_true rfl, Nat.le_of_ble_eq_true rfl⟩) (zpS hK hP hD [0, 1, 2, 3, 4, 5, 6, 7, 8, 9, 10, 11, 12, 13, 14, 15, 16, 17, 18, 19, 20, 21, 22, 23, 24, 25, 26, 27, 28] rfl rfl) rfl rfl hl.1 rfl (lv_room (Nat.le_of_ble_eq_true rfl)) dL_changes_495 ⟨Nat.le_of_ble_eq_true rfl, Nat.le_of_ble_eq_true rfl⟩) hP hD hS hA [0, 1, 2, 3, 4, 5, 6, 7, 8, 9, 10, 11, 12, 13, 14, 15, 16, 17, 18, 19, 20, 21, 22, 23, 24, 25, 26, 27, 28] [29] rfl rfl rfl (by decide) (fun v_203 u_202 H locs r_201 hP hD hS => ?_)
              obtain ⟨runx_204, rfl⟩ : ∃ z, z = u_202 := ⟨_, rfl⟩
              obtain ⟨v_205, r_201⟩ := r_201
              refine ze_l v_205 ?_
              have r_201 : tfZ runx_204 := r_201
              have hP : va_P (dC, dI) vwCl (wPW cI cJ cZ q pw co la vo cpar fr cdee use runx_204 nC tdue tlat twk nT edue elat ewk nE len cnt tin sp pe slp late srv hv av bd sh sc lt rule now st asl idl idn par div dee w) H := hP.sub [1, 2, 3, 4, 5, 6, 7, 8, 9, 10, 11, 12, 13, 14, 15, 16, 17, 18, 19, 20, 21, 22, 23, 24, 25, 26, 27, 28, 29, 0] (z_fm rfl)
              have hD : va_D A (wPW cI cJ cZ q pw co la vo cpar fr cdee use runx_204 nC tdue tlat twk nT edue elat ewk nE len cnt tin sp pe slp late srv hv av bd sh sc lt rule now st asl idl idn par div dee w) := hD.sub [1, 2, 3, 4, 5, 6, 7, 8, 9, 10, 11, 12, 13, 14, 15, 16, 17, 18, 19, 20, 21, 22, 23, 24, 25, 26, 27, 28, 29, 0] (by decide) rfl
              have hrun8 := r_201
              refine lv_lload hx hb dL_changes_498 (lv_at hl 2 rfl) ?_
              refine zl_sameN (tgt := 508) hx hb (by rfl) dL_changes_500 dL_changes_501 (by decide) ?_
              refine lv_iconst (v := iI 1) hx hb dL_changes_504 rfl ?_
              refine lv_goto (tgt := 509) hx hb dL_changes_505 (by decide) ?_
              subst hQ
              refine W.widen (k := 1) (n := 6) (by decide) (by decide) ?_
              exact zret_z (W1 := fun u9 : (Int → Int) × (Int → Int) × (Int → Int) × (Int → Int) × (Int → Int) × Int × Int × Int × (Int → Int) × Int × (Int → Int) × Int × Int × (Int → Int) => wPW cI cJ cZ q (u9.1) (u9.2.1) (u9.2.2.1) (u9.2.2.2.1) cpar fr cdee use (u9.2.2.2.2.1) nC tdue tlat twk nT edue elat ewk nE (u9.2.2.2.2.2.2.2.2.2.2.1) (u9.2.2.2.2.2.2.2.2.2.2.2.1) tin (u9.2.2.2.2.2.2.1) (u9.2.2.2.2.2.2.2.1) slp late srv hv av bd sh sc lt (u9.2.2.2.2.2.2.2.2.2.2.2.2.1) now (u9.2.2.2.2.2.1) asl (u9.2.2.2.2.2.2.2.2.1) (u9.2.2.2.2.2.2.2.2.2.1) par div dee (u9.2.2.2.2.2.2.2.2.2.2.2.2.2)) (pw, co, la, vo, runx_204, st, sp, pe, idl, idn, len, cnt, rule, w) hx hb hr hP hD hS hlocks dL_changes_509 (by first | decide | omega) (by exact ⟨rfl, lj_mono (K2 := K + 200) (lj_run hI hrun8) (by omega)⟩)
      refine lv_iload_n hx hb dL_changes_434 rfl (lv_at hl 8 rfl) ?_
      refine zi_feq (tgt := 453) hx hb (by omega) dL_changes_435 (by decide) (fun c_206 => ?_) (fun c_206 => ?_)
      · skip
        refine lv_bipush (v := iI 60) hx hb dL_changes_453 (by decide) ?_
        refine lv_iload_n hx hb dL_changes_455 rfl (lv_at hl 7 rfl) ?_
        refine lv_iconst (v := iI 3) hx hb dL_changes_456 rfl ?_
        refine zi_shr hx hb dL_changes_457 ?_
        refine lv_sipush (v := iI 200) hx hb dL_changes_458 (by decide) ?_
        refine zc_pi (va_runS (As := [.int (iI (shrZ y 3)), .int (iI 200)]) (rest := [.int (iI 60)]) ⟨hx, hb, hml, hown, hts⟩ (kL_some l dC dI cI cJ cZ (shrZ y 3) 200 (by first | assumption | omega | exact b2i_01 _ | exact shr_r _ _) (by first | assumption | omega | exact b2i_01 _ | exact shr_r _ _)) (va_cwS 2 hts gL_changes_L_some rfl rfl rfl (by decide +kernel) ⟨Nat.le_of_ble_eq_true rfl, Nat.le_of_ble_eq_true rfl⟩) (zqS hK hP [] rfl) rfl rfl hl.1 rfl (lv_room (Nat.le_of_ble_eq_true rfl)) dL_changes_461 ⟨Nat.le_of_ble_eq_true rfl, Nat.le_of_ble_eq_true rfl⟩) ?_
        have e_207 := sm_r (shrZ y 3) (show (0 : Int) < 200 by decide)
        refine zi_add hx hb dL_changes_464 ?_
        exact L465 (60 + (smZ (shrZ y 3) 200)) (by omega) H locs hP hD hS ls (lv_sub hl [0, 1, 2, 3, 4, 5, 6, 7, 8] rfl)
      · skip
        refine lv_iload_n hx hb dL_changes_438 rfl (lv_at hl 7 rfl) ?_
        refine lv_iconst (v := iI 3) hx hb dL_changes_439 rfl ?_
        refine zi_shr hx hb dL_changes_440 ?_
        refine lv_sipush (v := iI 1020) hx hb dL_changes_441 (by decide) ?_
        refine zc_pi (va_runS (As := [.int (iI (shrZ y 3)), .int (iI 1020)]) (rest := []) ⟨hx, hb, hml, hown, hts⟩ (kL_some l dC dI cI cJ cZ (shrZ y 3) 1020 (by first | assumption | omega | exact b2i_01 _ | exact shr_r _ _) (by first | assumption | omega | exact b2i_01 _ | exact shr_r _ _)) (va_cwS 2 hts gL_changes_L_some rfl rfl rfl (by decide +kernel) ⟨Nat.le_of_ble_eq_true rfl, Nat.le_of_ble_eq_true rfl⟩) (zqS hK hP [] rfl) rfl rfl hl.1 rfl (lv_room (Nat.le_of_ble_eq_true rfl)) dL_changes_444 ⟨Nat.le_of_ble_eq_true rfl, Nat.le_of_ble_eq_true rfl⟩) ?_
        have e_208 := sm_r (shrZ y 3) (show (0 : Int) < 1020 by decide)
        refine lv_bipush (v := iI 10) hx hb dL_changes_447 (by decide) ?_
        refine zi_sub hx hb dL_changes_449 ?_
        refine lv_goto (tgt := 465) hx hb dL_changes_450 (by decide) ?_
        exact L465 ((smZ (shrZ y 3) 1020) - 10) (by omega) H locs hP hD hS ls (lv_sub hl [0, 1, 2, 3, 4, 5, 6, 7, 8] rfl)
  · skip
    have L71 : ∀ (s1 : Int), (zR s1) → ∀ (H : Heap) (locs : List Loc), va_P (dC, dI) vwCl (wPW cI cJ cZ q pw co la vo cpar fr cdee use runx_5 nC tdue tlat twk nT edue elat ewk nE len cnt tin sp pe slp late srv hv av bd sh sc lt rule now st asl idl idn par div dee w) H → va_D A (wPW cI cJ cZ q pw co la vo cpar fr cdee use runx_5 nC tdue tlat twk nT edue elat ewk nE len cnt tin sp pe slp late srv hv av bd sh sc lt rule now st asl idl idn par div dee w) → va_S A s.heap H locs → ∀ ls : Array Slot, lv_has ls 17 [(10, .int (iI ((pw 0) * (la st)))), (8, .long (lI (alZ pw co la vo use nC tdue tlat nT tin sp slp late srv av bd sh now st par dee))), (6, .long (lI sp)), (5, .int (iI st)), (4, .int (iI (smZ y 8))), (0, .ref (q 0)), (1, .ref (q 29)), (2, .int (iI y)), (3, .int (iI od))] → W p l e rmL_changes s m ([.ref (q 0), .ref (q 29), .int (iI y), .int (iI od)] : List Value).toArray below meth c H locs 0 0 Q (F0 m 71 ls [.int (iI s1)]) := by
      intro s1 hs1 H locs hP hD hS ls hl
      refine lv_istore (lv' := [(11, .int (iI s1)), (10, .int (iI ((pw 0) * (la st)))), (8, .long (lI (alZ pw co la vo use nC tdue tlat nT tin sp slp late srv av bd sh now st par dee))), (6, .long (lI sp)), (5, .int (iI st)), (4, .int (iI (smZ y 8))), (0, .ref (q 0)), (1, .ref (q 29)), (2, .int (iI y)), (3, .int (iI od))]) hx hb dL_changes_71 hl (by decide) rfl (fun ls hl => ?_)
      have L102 : ∀ (p1 : Int), (zR p1) → ∀ (H : Heap) (locs : List Loc), va_P (dC, dI) vwCl (wPW cI cJ cZ q pw co la vo cpar fr cdee use runx_5 nC tdue tlat twk nT edue elat ewk nE len cnt tin sp pe slp late srv hv av bd sh sc lt rule now st asl idl idn par div dee w) H → va_D A (wPW cI cJ cZ q pw co la vo cpar fr cdee use runx_5 nC tdue tlat twk nT edue elat ewk nE len cnt tin sp pe slp late srv hv av bd sh sc lt rule now st asl idl idn par div dee w) → va_S A s.heap H locs → ∀ ls : Array Slot, lv_has ls 17 [(11, .int (iI s1)), (10, .int (iI ((pw 0) * (la st)))), (8, .long (lI (alZ pw co la vo use nC tdue tlat nT tin sp slp late srv av bd sh now st par dee))), (6, .long (lI sp)), (5, .int (iI st)), (4, .int (iI (smZ y 8))), (0, .ref (q 0)), (1, .ref (q 29)), (2, .int (iI y)), (3, .int (iI od))] → W p l e rmL_changes s m ([.ref (q 0), .ref (q 29), .int (iI y), .int (iI od)] : List Value).toArray below meth c H locs 0 0 Q (F0 m 102 ls [.int (iI p1)]) := by
        intro p1 hp1 H locs hP hD hS ls hl
        refine lv_istore (lv' := [(12, .int (iI p1)), (11, .int (iI s1)), (10, .int (iI ((pw 0) * (la st)))), (8, .long (lI (alZ pw co la vo use nC tdue tlat nT tin sp slp late srv av bd sh now st par dee))), (6, .long (lI sp)), (5, .int (iI st)), (4, .int (iI (smZ y 8))), (0, .ref (q 0)), (1, .ref (q 29)), (2, .int (iI y)), (3, .int (iI od))]) hx hb dL_changes_102 hl (by decide) rfl (fun ls hl => ?_)
        have L134 : ∀ (c1 : Int), (zR c1) → ∀ (H : Heap) (locs : List Loc), va_P (dC, dI) vwCl (wPW cI cJ cZ q pw co la vo cpar fr cdee use runx_5 nC tdue tlat twk nT edue elat ewk nE len cnt tin sp pe slp late srv hv av bd sh sc lt rule now st asl idl idn par div dee w) H → va_D A (wPW cI cJ cZ q pw co la vo cpar fr cdee use runx_5 nC tdue tlat twk nT edue elat ewk nE len cnt tin sp pe slp late srv hv av bd sh sc lt rule now st asl idl idn par div dee w) → va_S A s.heap H locs → ∀ ls : Array Slot, lv_has ls 17 [(12, .int (iI p1)), (11, .int (iI s1)), (10, .int (iI ((pw 0) * (la st)))), (8, .long (lI (alZ pw co la vo use nC tdue tlat nT tin sp slp late srv av bd sh now st par dee))), (6, .long (lI sp)), (5, .int (iI st)), (4, .int (iI (smZ y 8))), (0, .ref (q 0)), (1, .ref (q 29)), (2, .int (iI y)), (3, .int (iI od))] → W p l e rmL_changes s m ([.ref (q 0), .ref (q 29), .int (iI y), .int (iI od)] : List Value).toArray below meth c H locs 0 0 Q (F0 m 134 ls [.int (iI c1)]) := by
          intro c1 hc1 H locs hP hD hS ls hl
          refine lv_istore (lv' := [(13, .int (iI c1)), (12, .int (iI p1)), (11, .int (iI s1)), (10, .int (iI ((pw 0) * (la st)))), (8, .long (lI (alZ pw co la vo use nC tdue tlat nT tin sp slp late srv av bd sh now st par dee))), (6, .long (lI sp)), (5, .int (iI st)), (4, .int (iI (smZ y 8))), (0, .ref (q 0)), (1, .ref (q 29)), (2, .int (iI y)), (3, .int (iI od))]) hx hb dL_changes_134 hl (by decide) rfl (fun ls hl => ?_)
          have L164 : ∀ (l1 : Int), (zR l1) → ∀ (H : Heap) (locs : List Loc), va_P (dC, dI) vwCl (wPW cI cJ cZ q pw co la vo cpar fr cdee use runx_5 nC tdue tlat twk nT edue elat ewk nE len cnt tin sp pe slp late srv hv av bd sh sc lt rule now st asl idl idn par div dee w) H → va_D A (wPW cI cJ cZ q pw co la vo cpar fr cdee use runx_5 nC tdue tlat twk nT edue elat ewk nE len cnt tin sp pe slp late srv hv av bd sh sc lt rule now st asl idl idn par div dee w) → va_S A s.heap H locs → ∀ ls : Array Slot, lv_has ls 17 [(13, .int (iI c1)), (12, .int (iI p1)), (11, .int (iI s1)), (10, .int (iI ((pw 0) * (la st)))), (8, .long (lI (alZ pw co la vo use nC tdue tlat nT tin sp slp late srv av bd sh now st par dee))), (6, .long (lI sp)), (5, .int (iI st)), (4, .int (iI (smZ y 8))), (0, .ref (q 0)), (1, .ref (q 29)), (2, .int (iI y)), (3, .int (iI od))] → W p l e rmL_changes s m ([.ref (q 0), .ref (q 29), .int (iI y), .int (iI od)] : List Value).toArray below meth c H locs 0 0 Q (F0 m 164 ls [.int (iI l1)]) := by
            intro l1 hl1 H locs hP hD hS ls hl
            refine lv_istore (lv' := [(14, .int (iI l1)), (13, .int (iI c1)), (12, .int (iI p1)), (11, .int (iI s1)), (10, .int (iI ((pw 0) * (la st)))), (8, .long (lI (alZ pw co la vo use nC tdue tlat nT tin sp slp late srv av bd sh now st par dee))), (6, .long (lI sp)), (5, .int (iI st)), (4, .int (iI (smZ y 8))), (0, .ref (q 0)), (1, .ref (q 29)), (2, .int (iI y)), (3, .int (iI od))]) hx hb dL_changes_164 hl (by decide) rfl (fun ls hl => ?_)
            have L216 : (¬ ((1 ≤ s1 ∧ s1 ≤ 3) ∧ (0 ≤ p1 ∧ p1 ≤ 1000) ∧ (0 ≤ c1 ∧ c1 ≤ 10000) ∧ (0 ≤ l1 ∧ l1 ≤ 100))) → ∀ (H : Heap) (locs : List Loc), va_P (dC, dI) vwCl (wPW cI cJ cZ q pw co la vo cpar fr cdee use runx_5 nC tdue tlat twk nT edue elat ewk nE len cnt tin sp pe slp late srv hv av bd sh sc lt rule now st asl idl idn par div dee w) H → va_D A (wPW cI cJ cZ q pw co la vo cpar fr cdee use runx_5 nC tdue tlat twk nT edue elat ewk nE len cnt tin sp pe slp late srv hv av bd sh sc lt rule now st asl idl idn par div dee w) → va_S A s.heap H locs → ∀ ls : Array Slot, lv_has ls 17 [(14, .int (iI l1)), (13, .int (iI c1)), (12, .int (iI p1)), (11, .int (iI s1)), (10, .int (iI ((pw 0) * (la st)))), (8, .long (lI (alZ pw co la vo use nC tdue tlat nT tin sp slp late srv av bd sh now st par dee))), (6, .long (lI sp)), (5, .int (iI st)), (4, .int (iI (smZ y 8))), (0, .ref (q 0)), (1, .ref (q 29)), (2, .int (iI y)), (3, .int (iI od))] → W p l e rmL_changes s m ([.ref (q 0), .ref (q 29), .int (iI y), .int (iI od)] : List Value).toArray below meth c H locs 0 0 Q (F0 m 216 ls []) := by
              intro hb9 H locs hP hD hS ls hl
              refine lv_aload_n hx hb dL_changes_216 rfl (lv_at hl 9 rfl) ?_
              refine lv_iload hx hb dL_changes_217 (lv_at hl 3 rfl) ?_
              refine lv_iload hx hb dL_changes_219 (lv_at hl 2 rfl) ?_
              refine lv_iload hx hb dL_changes_221 (lv_at hl 1 rfl) ?_
              refine lv_iload hx hb dL_changes_223 (lv_at hl 0 rfl) ?_
              refine zc_i (vx_runSW (As := [.ref (q 0), .int (iI s1), .int (iI p1), .int (iI c1), .int (iI l1)]) (rest := []) ⟨hx, hb, hml, hown, hts⟩ (kL_state_bad l dC dI cI cJ cZ q pw co la vo cpar fr cdee use runx_5 nC tdue tlat twk nT edue elat ewk nE len cnt tin sp pe slp late srv hv av bd sh sc lt rule now st asl idl idn par div dee s1 p1 c1 l1 (by first | assumption | omega | exact b2i_01 _ | exact shr_r _ _) (by first | assumption | omega | exact b2i_01 _ | exact shr_r _ _) (by first | assumption | omega | exact b2i_01 _ | exact shr_r _ _) (by first | assumption | omega | exact b2i_01 _ | exact shr_r _ _) (by first | assumption | omega | exact b2i_01 _ | exact shr_r _ _) (by first | assumption | omega | exact b2i_01 _ | exact shr_r _ _) (by first | assumption | omega | exact b2i_01 _ | exact shr_r _ _) (by first | assumption | omega | exact b2i_01 _ | exact shr_r _ _) (by first | assumption | omega | exact b2i_01 _ | exact shr_r _ _) (by first | assumption | omega | exact b2i_01 _ | exact shr_r _ _) (by first | assumption | omega | exact b2i_01 _ | exact shr_r _ _) (by first | assumption | omega | exact b2i_01 _ | exact shr_r _ _) htr H.size) (vx_cwSW 5 hts gL_changes_L_state rfl rfl rfl (by decide +kernel) ⟨Nat.le_of_ble_eq_true rfl, Nat.le_of_ble_eq_true rfl⟩) (zyS hY hX hS hA hK hP hD [0, 1, 2, 3, 4, 5, 6, 7, 8, 9, 10, 11, 12, 13, 14, 15, 16, 17, 18, 19, 20, 21, 22, 23, 24, 25, 26, 27, 28] rfl rfl) rfl rfl hl.1 rfl (lv_room (Nat.le_of_ble_eq_true rfl)) dL_changes_225 ⟨Nat.le_of_ble_eq_true rfl, Nat.le_of_ble_eq_true rfl⟩) hP hD hS hA [0, 1, 2, 3, 4, 5, 6, 7, 8, 9, 10, 11, 12, 13, 14, 15, 16, 17, 18, 19, 20, 21, 22, 23, 24, 25, 26, 27, 28] [29] rfl rfl rfl (by decide) (fun v_211 u_210 H locs r_209 hP hD hS => ?_)
              refine ze_i r_209 ?_
              have hP : va_P (dC, dI) vwCl (wPW cI cJ cZ q pw co la vo cpar fr cdee use runx_5 nC tdue tlat twk nT edue elat ewk nE len cnt tin sp pe slp late srv hv av bd sh sc lt rule now st asl idl idn par div dee w) H := hP.sub [1, 2, 3, 4, 5, 6, 7, 8, 9, 10, 11, 12, 13, 14, 15, 16, 17, 18, 19, 20, 21, 22, 23, 24, 25, 26, 27, 28, 29, 0] (z_fm rfl)
              have hD : va_D A (wPW cI cJ cZ q pw co la vo cpar fr cdee use runx_5 nC tdue tlat twk nT edue elat ewk nE len cnt tin sp pe slp late srv hv av bd sh sc lt rule now st asl idl idn par div dee w) := hD.sub [1, 2, 3, 4, 5, 6, 7, 8, 9, 10, 11, 12, 13, 14, 15, 16, 17, 18, 19, 20, 21, 22, 23, 24, 25, 26, 27, 28, 29, 0] (by decide) rfl
              refine lv_bipush (v := iI (-82)) hx hb dL_changes_228 (by decide) ?_
              refine zi_cne (tgt := 247) hx hb (by decide) (by decide) dL_changes_230 (by decide) (fun c_212 => ?_) (fun c_212 => ?_)
              · skip
                exact absurd c_212 (by decide)
              · skip
                refine lv_aload_n hx hb dL_changes_233 rfl (lv_at hl 9 rfl) ?_
                refine zc_l (va_runS (As := [.ref (q 0)]) (rest := []) ⟨hx, hb, hml, hown, hts⟩ (kL_all l dC dI cI cJ cZ q pw co la vo cpar fr cdee use runx_5 nC tdue tlat twk nT edue elat ewk nE len cnt tin sp pe slp late srv hv av bd sh sc lt rule now st asl idl idn par div dee (by first | assumption | omega | exact b2i_01 _ | exact shr_r _ _) (by first | assumption | omega | exact b2i_01 _ | exact shr_r _ _) (by first | assumption | omega | exact b2i_01 _ | exact shr_r _ _) (by first | assumption | omega | exact b2i_01 _ | exact shr_r _ _) (by first | assumption | omega | exact b2i_01 _ | exact shr_r _ _) (by first | assumption | omega | exact b2i_01 _ | exact shr_r _ _) (by first | assumption | omega | exact b2i_01 _ | exact shr_r _ _) (by first | assumption | omega | exact b2i_01 _ | exact shr_r _ _) (by first | assumption | omega | exact b2i_01 _ | exact shr_r _ _) (by first | assumption | omega | exact b2i_01 _ | exact shr_r _ _) (by first | assumption | omega | exact b2i_01 _ | exact shr_r _ _) (by first | assumption | omega | exact b2i_01 _ | exact shr_r _ _) (by first | assumption | omega | exact b2i_01 _ | exact shr_r _ _) (by first | assumption | omega | exact b2i_01 _ | exact shr_r _ _) (by first | assumption | omega | exact b2i_01 _ | exact shr_r _ _) (by first | assumption | omega | exact b2i_01 _ | exact shr_r _ _) (by first | assumption | omega | exact b2i_01 _ | exact shr_r _ _) (by first | assumption | omega | exact b2i_01 _ | exact shr_r _ _) (by first | assumption | omega | exact b2i_01 _ | exact shr_r _ _) (by first | assumption | omega | exact b2i_01 _ | exact shr_r _ _) (by first | assumption | omega | exact b2i_01 _ | exact shr_r _ _) H.size) (va_cwS 1 hts gL_changes_L_all rfl rfl rfl (by decide +kernel) ⟨Nat.le_of_ble_eq_true rfl, Nat.le_of_ble_eq_true rfl⟩) (zpS hK hP hD [0, 1, 2, 3, 4, 5, 6, 7, 8, 9, 10, 11, 12, 13, 14, 15, 16, 17, 18, 19, 20, 21, 22, 23, 24, 25, 26, 27, 28] rfl rfl) rfl rfl hl.1 rfl (lv_room (Nat.le_of_ble_eq_true rfl)) dL_changes_234 ⟨Nat.le_of_ble_eq_true rfl, Nat.le_of_ble_eq_true rfl⟩) hP hD hS hA [0, 1, 2, 3, 4, 5, 6, 7, 8, 9, 10, 11, 12, 13, 14, 15, 16, 17, 18, 19, 20, 21, 22, 23, 24, 25, 26, 27, 28] [29] rfl rfl rfl (by decide) (fun v_215 u_214 H locs r_213 hP hD hS => ?_)
                obtain ⟨runx_216, rfl⟩ : ∃ z, z = u_214 := ⟨_, rfl⟩
                obtain ⟨v_217, r_213⟩ := r_213
                refine ze_l v_217 ?_
                have r_213 : tfZ runx_216 := r_213
                have hP : va_P (dC, dI) vwCl (wPW cI cJ cZ q pw co la vo cpar fr cdee use runx_216 nC tdue tlat twk nT edue elat ewk nE len cnt tin sp pe slp late srv hv av bd sh sc lt rule now st asl idl idn par div dee w) H := hP.sub [1, 2, 3, 4, 5, 6, 7, 8, 9, 10, 11, 12, 13, 14, 15, 16, 17, 18, 19, 20, 21, 22, 23, 24, 25, 26, 27, 28, 29, 0] (z_fm rfl)
                have hD : va_D A (wPW cI cJ cZ q pw co la vo cpar fr cdee use runx_216 nC tdue tlat twk nT edue elat ewk nE len cnt tin sp pe slp late srv hv av bd sh sc lt rule now st asl idl idn par div dee w) := hD.sub [1, 2, 3, 4, 5, 6, 7, 8, 9, 10, 11, 12, 13, 14, 15, 16, 17, 18, 19, 20, 21, 22, 23, 24, 25, 26, 27, 28, 29, 0] (by decide) rfl
                have hrun8 := r_213
                refine lv_lload hx hb dL_changes_237 (lv_at hl 5 rfl) ?_
                refine zl_sameN (tgt := 247) hx hb (by rfl) dL_changes_239 dL_changes_240 (by decide) ?_
                refine lv_iconst (v := iI 1) hx hb dL_changes_243 rfl ?_
                refine lv_goto (tgt := 248) hx hb dL_changes_244 (by decide) ?_
                subst hQ
                refine W.widen (k := 1) (n := 6) (by decide) (by decide) ?_
                exact zret_z (W1 := fun u9 : (Int → Int) × (Int → Int) × (Int → Int) × (Int → Int) × (Int → Int) × Int × Int × Int × (Int → Int) × Int × (Int → Int) × Int × Int × (Int → Int) => wPW cI cJ cZ q (u9.1) (u9.2.1) (u9.2.2.1) (u9.2.2.2.1) cpar fr cdee use (u9.2.2.2.2.1) nC tdue tlat twk nT edue elat ewk nE (u9.2.2.2.2.2.2.2.2.2.2.1) (u9.2.2.2.2.2.2.2.2.2.2.2.1) tin (u9.2.2.2.2.2.2.1) (u9.2.2.2.2.2.2.2.1) slp late srv hv av bd sh sc lt (u9.2.2.2.2.2.2.2.2.2.2.2.2.1) now (u9.2.2.2.2.2.1) asl (u9.2.2.2.2.2.2.2.2.1) (u9.2.2.2.2.2.2.2.2.2.1) par div dee (u9.2.2.2.2.2.2.2.2.2.2.2.2.2)) (pw, co, la, vo, runx_216, st, sp, pe, idl, idn, len, cnt, rule, w) hx hb hr hP hD hS hlocks dL_changes_248 (by first | decide | omega) (by exact ⟨rfl, lj_mono (K2 := K + 200) (lj_run hI hrun8) (by omega)⟩)
            refine lv_iload hx hb dL_changes_166 (lv_at hl 3 rfl) ?_
            refine lv_iconst (v := iI 1) hx hb dL_changes_168 rfl ?_
            refine zi_clt (tgt := 216) hx hb (by omega) (by decide) dL_changes_169 (by decide) (fun c_218 => ?_) (fun c_218 => ?_)
            · skip
              exact L216  (by omega) H locs hP hD hS ls (lv_sub hl [0, 1, 2, 3, 4, 5, 6, 7, 8, 9, 10, 11, 12] rfl)
            · skip
              refine lv_iload hx hb dL_changes_172 (lv_at hl 3 rfl) ?_
              refine lv_iconst (v := iI 3) hx hb dL_changes_174 rfl ?_
              refine zi_cgt (tgt := 216) hx hb (by omega) (by decide) dL_changes_175 (by decide) (fun c_219 => ?_) (fun c_219 => ?_)
              · skip
                exact L216  (by omega) H locs hP hD hS ls (lv_sub hl [0, 1, 2, 3, 4, 5, 6, 7, 8, 9, 10, 11, 12] rfl)
              · skip
                refine lv_iload hx hb dL_changes_178 (lv_at hl 2 rfl) ?_
                refine zi_flt (tgt := 216) hx hb (by omega) dL_changes_180 (by decide) (fun c_220 => ?_) (fun c_220 => ?_)
                · skip
                  exact L216  (by omega) H locs hP hD hS ls (lv_sub hl [0, 1, 2, 3, 4, 5, 6, 7, 8, 9, 10, 11, 12] rfl)
                · skip
                  refine lv_iload hx hb dL_changes_183 (lv_at hl 2 rfl) ?_
                  refine lv_sipush (v := iI 1000) hx hb dL_changes_185 (by decide) ?_
                  refine zi_cgt (tgt := 216) hx hb (by omega) (by decide) dL_changes_188 (by decide) (fun c_221 => ?_) (fun c_221 => ?_)
                  · skip
                    exact L216  (by omega) H locs hP hD hS ls (lv_sub hl [0, 1, 2, 3, 4, 5, 6, 7, 8, 9, 10, 11, 12] rfl)
                  · skip
                    refine lv_iload hx hb dL_changes_191 (lv_at hl 1 rfl) ?_
                    refine zi_flt (tgt := 216) hx hb (by omega) dL_changes_193 (by decide) (fun c_222 => ?_) (fun c_222 => ?_)
                    · skip
                      exact L216  (by omega) H locs hP hD hS ls (lv_sub hl [0, 1, 2, 3, 4, 5, 6, 7, 8, 9, 10, 11, 12] rfl)
                    · skip
                      refine lv_iload hx hb dL_changes_196 (lv_at hl 1 rfl) ?_
                      refine lv_sipush (v := iI 10000) hx hb dL_changes_198 (by decide) ?_
                      refine zi_cgt (tgt := 216) hx hb (by omega) (by decide) dL_changes_201 (by decide) (fun c_223 => ?_) (fun c_223 => ?_)
                      · skip
                        exact L216  (by omega) H locs hP hD hS ls (lv_sub hl [0, 1, 2, 3, 4, 5, 6, 7, 8, 9, 10, 11, 12] rfl)
                      · skip
                        refine lv_iload hx hb dL_changes_204 (lv_at hl 0 rfl) ?_
                        refine zi_flt (tgt := 216) hx hb (by omega) dL_changes_206 (by decide) (fun c_224 => ?_) (fun c_224 => ?_)
                        · skip
                          exact L216  (by omega) H locs hP hD hS ls (lv_sub hl [0, 1, 2, 3, 4, 5, 6, 7, 8, 9, 10, 11, 12] rfl)
                        · skip
                          refine lv_iload hx hb dL_changes_209 (lv_at hl 0 rfl) ?_
                          refine lv_bipush (v := iI 100) hx hb dL_changes_211 (by decide) ?_
                          refine zi_cle (tgt := 249) hx hb (by omega) (by decide) dL_changes_213 (by decide) (fun c_225 => ?_) (fun c_225 => ?_)
                          · skip
                            refine lv_aload_n hx hb dL_changes_249 rfl (lv_at hl 9 rfl) ?_
                            refine lv_iload hx hb dL_changes_250 (lv_at hl 3 rfl) ?_
                            refine lv_iload hx hb dL_changes_252 (lv_at hl 2 rfl) ?_
                            refine lv_iload hx hb dL_changes_254 (lv_at hl 1 rfl) ?_
                            refine lv_iload hx hb dL_changes_256 (lv_at hl 0 rfl) ?_
                            refine zc_i (vx_runSW (As := [.ref (q 0), .int (iI s1), .int (iI p1), .int (iI c1), .int (iI l1)]) (rest := []) ⟨hx, hb, hml, hown, hts⟩ (kL_state_ok l dC dI cI cJ cZ q pw co la vo cpar fr cdee use runx_5 nC tdue tlat twk nT edue elat ewk nE len cnt tin sp pe slp late srv hv av bd sh sc lt rule now st asl idl idn par div dee s1 p1 c1 l1 (by first | assumption | omega | exact b2i_01 _ | exact shr_r _ _) (by first | assumption | omega | exact b2i_01 _ | exact shr_r _ _) (by first | assumption | omega | exact b2i_01 _ | exact shr_r _ _) (by first | assumption | omega | exact b2i_01 _ | exact shr_r _ _) (by first | assumption | omega | exact b2i_01 _ | exact shr_r _ _) (by first | assumption | omega | exact b2i_01 _ | exact shr_r _ _) (by first | assumption | omega | exact b2i_01 _ | exact shr_r _ _) (by first | assumption | omega | exact b2i_01 _ | exact shr_r _ _) (by first | assumption | omega | exact b2i_01 _ | exact shr_r _ _) (by first | assumption | omega | exact b2i_01 _ | exact shr_r _ _) (by first | assumption | omega | exact b2i_01 _ | exact shr_r _ _) (by first | assumption | omega | exact b2i_01 _ | exact shr_r _ _) H.size) (vx_cwSW 5 hts gL_changes_L_state rfl rfl rfl (by decide +kernel) ⟨Nat.le_of_ble_eq_true rfl, Nat.le_of_ble_eq_true rfl⟩) (zpS hK hP hD [0, 1, 2, 3, 4, 5, 6, 7, 8, 9, 10, 11, 12, 13, 14, 15, 16, 17, 18, 19, 20, 21, 22, 23, 24, 25, 26, 27, 28] rfl rfl) rfl rfl hl.1 rfl (lv_room (Nat.le_of_ble_eq_true rfl)) dL_changes_258 ⟨Nat.le_of_ble_eq_true rfl, Nat.le_of_ble_eq_true rfl⟩) hP hD hS hA [0, 1, 2, 3, 4, 5, 6, 7, 8, 9, 10, 11, 12, 13, 14, 15, 16, 17, 18, 19, 20, 21, 22, 23, 24, 25, 26, 27, 28] [29] rfl rfl rfl (by decide) (fun v_228 u_227 H locs r_226 hP hD hS => ?_)
                            obtain ⟨stx_229, spx_230, pex_231, idlx_232, idnx_233, lenx_234, cntx_235⟩ := u_227
                            obtain ⟨v_236, r_226⟩ := r_226
                            refine ze_i v_236 ?_
                            have r_226 : (stx_229, spx_230, pex_231, idlx_232, idnx_233) = scF pw la st asl now sp pe idl idn ∧ idR lenx_234 cntx_235 idlx_232 idnx_233 := r_226
                            have hP : va_P (dC, dI) vwCl (wPW cI cJ cZ q (uZ pw s1 p1) (uZ co s1 c1) (uZ la s1 l1) vo cpar fr cdee use runx_5 nC tdue tlat twk nT edue elat ewk nE lenx_234 cntx_235 tin spx_230 pex_231 slp late srv hv av bd sh sc lt rule now stx_229 asl idlx_232 idnx_233 par div dee w) H := hP.sub [1, 2, 3, 4, 5, 6, 7, 8, 9, 10, 11, 12, 13, 14, 15, 16, 17, 18, 19, 20, 21, 22, 23, 24, 25, 26, 27, 28, 29, 0] (z_fm rfl)
                            have hD : va_D A (wPW cI cJ cZ q (uZ pw s1 p1) (uZ co s1 c1) (uZ la s1 l1) vo cpar fr cdee use runx_5 nC tdue tlat twk nT edue elat ewk nE lenx_234 cntx_235 tin spx_230 pex_231 slp late srv hv av bd sh sc lt rule now stx_229 asl idlx_232 idnx_233 par div dee w) := hD.sub [1, 2, 3, 4, 5, 6, 7, 8, 9, 10, 11, 12, 13, 14, 15, 16, 17, 18, 19, 20, 21, 22, 23, 24, 25, 26, 27, 28, 29, 0] (by decide) rfl
                            obtain ⟨hsc9, hid9⟩ := r_226
                            have hwk9 := sc_f hsc9
                            have hI6 := lj_sc hI5 (by omega) hsc9 hid9
                            have hI8 := lj_mono (K2 := K + 200) (lj_state hI6 (x1 := s1) (x2 := p1) (x3 := c1) (x4 := l1) (by omega) (by omega) (by omega) (by omega)) (by omega)
                            obtain ⟨⟨hpw8, hco8, hla8, -⟩, -⟩ := id hI8
                            refine zi_fne (tgt := 281) hx hb (by decide) dL_changes_261 (by decide) (fun c_237 => ?_) (fun c_237 => ?_)
                            · skip
                              exact absurd c_237 (by decide)
                            · skip
                              refine lv_aload_n hx hb dL_changes_264 rfl (lv_at hl 9 rfl) ?_
                              refine lv_iload hx hb dL_changes_265 (lv_at hl 7 rfl) ?_
                              refine lv_lload hx hb dL_changes_267 (lv_at hl 6 rfl) ?_
                              refine lv_iload hx hb dL_changes_269 (lv_at hl 4 rfl) ?_
                              refine zc_pi (va_runS (As := [.ref (q 0), .int (iI st), .long (lI sp), .int (iI ((pw 0) * (la st)))]) (rest := []) ⟨hx, hb, hml, hown, hts⟩ (kL_woke l dC dI cI cJ cZ q (uZ pw s1 p1) (uZ co s1 c1) (uZ la s1 l1) vo cpar fr cdee use runx_5 nC tdue tlat twk nT edue elat ewk nE lenx_234 cntx_235 tin spx_230 pex_231 slp late srv hv av bd sh sc lt rule now stx_229 asl idlx_232 idnx_233 par div dee st sp ((pw 0) * (la st)) (hwk9.1) (hwk9.2) (by first | assumption | omega | exact b2i_01 _ | exact shr_r _ _) (by first | assumption | omega | exact b2i_01 _ | exact shr_r _ _)) (va_cwS 4 hts gL_changes_L_woke rfl rfl rfl (by decide +kernel) ⟨Nat.le_of_ble_eq_true rfl, Nat.le_of_ble_eq_true rfl⟩) (zqS hK hP [0, 1, 2, 3, 4, 5, 6, 7, 8, 9, 10, 11, 12, 13, 14, 15, 16, 17, 18, 19, 20, 21, 22, 23, 24, 25, 26, 27, 28] rfl) rfl rfl hl.1 rfl (lv_room (Nat.le_of_ble_eq_true rfl)) dL_changes_271 ⟨Nat.le_of_ble_eq_true rfl, Nat.le_of_ble_eq_true rfl⟩) ?_
                              refine zi_feq (tgt := 281) hx hb (by decide) dL_changes_274 (by decide) (fun c_238 => ?_) (fun c_238 => ?_)
                              · skip
                                exact absurd c_238 (by decide)
                              · skip
                                refine lv_iconst (v := iI 1) hx hb dL_changes_277 rfl ?_
                                refine lv_goto (tgt := 282) hx hb dL_changes_278 (by decide) ?_
                                refine lv_istore (lv' := [(15, .int (iI 1)), (14, .int (iI l1)), (13, .int (iI c1)), (12, .int (iI p1)), (11, .int (iI s1)), (10, .int (iI ((pw 0) * (la st)))), (8, .long (lI (alZ pw co la vo use nC tdue tlat nT tin sp slp late srv av bd sh now st par dee))), (6, .long (lI sp)), (5, .int (iI st)), (4, .int (iI (smZ y 8))), (0, .ref (q 0)), (1, .ref (q 29)), (2, .int (iI y)), (3, .int (iI od))]) hx hb dL_changes_282 hl (by decide) rfl (fun ls hl => ?_)
                                refine lv_aload_n hx hb dL_changes_284 rfl (lv_at hl 11 rfl) ?_
                                refine lv_iload hx hb dL_changes_285 (lv_at hl 4 rfl) ?_
                                refine lv_iload hx hb dL_changes_287 (lv_at hl 3 rfl) ?_
                                refine za_st hx hb hK hP hD hS 29 0 rfl rfl (by omega) (by omega) dL_changes_289 (fun H locs hP hD hS => ?_)
                                have hP : va_P (dC, dI) vwCl (wPW cI cJ cZ q (uZ pw s1 p1) (uZ co s1 c1) (uZ la s1 l1) vo cpar fr cdee use runx_5 nC tdue tlat twk nT edue elat ewk nE lenx_234 cntx_235 tin spx_230 pex_231 slp late srv hv av bd sh sc lt rule now stx_229 asl idlx_232 idnx_233 par div dee (uZ w s1 p1)) H := hP
                                have hD : va_D A (wPW cI cJ cZ q (uZ pw s1 p1) (uZ co s1 c1) (uZ la s1 l1) vo cpar fr cdee use runx_5 nC tdue tlat twk nT edue elat ewk nE lenx_234 cntx_235 tin spx_230 pex_231 slp late srv hv av bd sh sc lt rule now stx_229 asl idlx_232 idnx_233 par div dee (uZ w s1 p1)) := hD
                                refine lv_aload_n hx hb dL_changes_290 rfl (lv_at hl 11 rfl) ?_
                                refine lv_iconst (v := iI 4) hx hb dL_changes_291 rfl ?_
                                refine lv_iload hx hb dL_changes_292 (lv_at hl 4 rfl) ?_
                                refine zi_add hx hb dL_changes_294 ?_
                                refine lv_iload hx hb dL_changes_295 (lv_at hl 2 rfl) ?_
                                refine za_st hx hb hK hP hD hS 29 0 rfl rfl (by omega) (by omega) dL_changes_297 (fun H locs hP hD hS => ?_)
                                have hP : va_P (dC, dI) vwCl (wPW cI cJ cZ q (uZ pw s1 p1) (uZ co s1 c1) (uZ la s1 l1) vo cpar fr cdee use runx_5 nC tdue tlat twk nT edue elat ewk nE lenx_234 cntx_235 tin spx_230 pex_231 slp late srv hv av bd sh sc lt rule now stx_229 asl idlx_232 idnx_233 par div dee (uZ (uZ w s1 p1) (4 + s1) c1)) H := hP
                                have hD : va_D A (wPW cI cJ cZ q (uZ pw s1 p1) (uZ co s1 c1) (uZ la s1 l1) vo cpar fr cdee use runx_5 nC tdue tlat twk nT edue elat ewk nE lenx_234 cntx_235 tin spx_230 pex_231 slp late srv hv av bd sh sc lt rule now stx_229 asl idlx_232 idnx_233 par div dee (uZ (uZ w s1 p1) (4 + s1) c1)) := hD
                                refine lv_aload_n hx hb dL_changes_298 rfl (lv_at hl 11 rfl) ?_
                                refine lv_bipush (v := iI 8) hx hb dL_changes_299 (by decide) ?_
                                refine lv_iload hx hb dL_changes_301 (lv_at hl 4 rfl) ?_
                                refine zi_add hx hb dL_changes_303 ?_
                                refine lv_iload hx hb dL_changes_304 (lv_at hl 1 rfl) ?_
                                refine za_st hx hb hK hP hD hS 29 0 rfl rfl (by omega) (by omega) dL_changes_306 (fun H locs hP hD hS => ?_)
                                have hP : va_P (dC, dI) vwCl (wPW cI cJ cZ q (uZ pw s1 p1) (uZ co s1 c1) (uZ la s1 l1) vo cpar fr cdee use runx_5 nC tdue tlat twk nT edue elat ewk nE lenx_234 cntx_235 tin spx_230 pex_231 slp late srv hv av bd sh sc lt rule now stx_229 asl idlx_232 idnx_233 par div dee (uZ (uZ (uZ w s1 p1) (4 + s1) c1) (8 + s1) l1)) H := hP
                                have hD : va_D A (wPW cI cJ cZ q (uZ pw s1 p1) (uZ co s1 c1) (uZ la s1 l1) vo cpar fr cdee use runx_5 nC tdue tlat twk nT edue elat ewk nE lenx_234 cntx_235 tin spx_230 pex_231 slp late srv hv av bd sh sc lt rule now stx_229 asl idlx_232 idnx_233 par div dee (uZ (uZ (uZ w s1 p1) (4 + s1) c1) (8 + s1) l1)) := hD
                                refine lv_aload_n hx hb dL_changes_307 rfl (lv_at hl 10 rfl) ?_
                                refine lv_iload hx hb dL_changes_308 (lv_at hl 4 rfl) ?_
                                refine zc_i (va_runV (As := [.int (iI s1)]) (rest := []) ⟨hx, hb, hml, hown, hts⟩ (kX7_breakEven_ok l dC dI cI cJ cZ q (uZ pw s1 p1) (uZ co s1 c1) (uZ la s1 l1) vo cpar fr cdee use runx_5 nC tdue tlat twk nT edue elat ewk nE lenx_234 cntx_235 tin spx_230 pex_231 slp late srv hv av bd sh sc lt rule now stx_229 asl idlx_232 idnx_233 par div dee s1 (by first | assumption | omega | exact b2i_01 _ | exact shr_r _ _) (by first | assumption | omega | exact b2i_01 _ | exact shr_r _ _) (by first | assumption | omega | exact b2i_01 _ | exact shr_r _ _) (by first | assumption | omega | exact b2i_01 _ | exact shr_r _ _) (by first | assumption | omega | exact b2i_01 _ | exact shr_r _ _) H.size) (cwV 1 hts gL_changes_X7_breakEven rfl rfl rfl (by decide +kernel) ⟨Nat.le_of_ble_eq_true rfl, Nat.le_of_ble_eq_true rfl⟩) (zpV hK hP hD [0, 1, 2, 3, 4, 5, 6, 7, 8, 9, 10, 11, 12, 13, 14, 15, 16, 17, 18, 19, 20, 21, 22, 23, 24, 25, 26, 27, 28] rfl rfl 0 rfl rfl) rfl rfl hl.1 rfl (lv_room (Nat.le_of_ble_eq_true rfl)) dL_changes_310 ⟨Nat.le_of_ble_eq_true rfl, Nat.le_of_ble_eq_true rfl⟩) hP hD hS hA [0, 1, 2, 3, 4, 5, 6, 7, 8, 9, 10, 11, 12, 13, 14, 15, 16, 17, 18, 19, 20, 21, 22, 23, 24, 25, 26, 27, 28] [29] rfl rfl rfl (by decide) (fun v_241 u_240 H locs r_239 hP hD hS => ?_)
                                refine ze_i r_239 ?_
                                have hP : va_P (dC, dI) vwCl (wPW cI cJ cZ q (uZ pw s1 p1) (uZ co s1 c1) (uZ la s1 l1) vo cpar fr cdee use runx_5 nC tdue tlat twk nT edue elat ewk nE lenx_234 cntx_235 tin spx_230 pex_231 slp late srv hv av bd sh sc lt rule now stx_229 asl idlx_232 idnx_233 par div dee (uZ (uZ (uZ w s1 p1) (4 + s1) c1) (8 + s1) l1)) H := hP.sub [1, 2, 3, 4, 5, 6, 7, 8, 9, 10, 11, 12, 13, 14, 15, 16, 17, 18, 19, 20, 21, 22, 23, 24, 25, 26, 27, 28, 29, 0] (z_fm rfl)
                                have hD : va_D A (wPW cI cJ cZ q (uZ pw s1 p1) (uZ co s1 c1) (uZ la s1 l1) vo cpar fr cdee use runx_5 nC tdue tlat twk nT edue elat ewk nE lenx_234 cntx_235 tin spx_230 pex_231 slp late srv hv av bd sh sc lt rule now stx_229 asl idlx_232 idnx_233 par div dee (uZ (uZ (uZ w s1 p1) (4 + s1) c1) (8 + s1) l1)) := hD.sub [1, 2, 3, 4, 5, 6, 7, 8, 9, 10, 11, 12, 13, 14, 15, 16, 17, 18, 19, 20, 21, 22, 23, 24, 25, 26, 27, 28, 29, 0] (by decide) rfl
                                have hev := ev_f (p0 := pw 0) (ps := p1) (c := c1) (l := l1) hp0 (by omega) (by omega) (by omega)
                                refine ze_i (y := evZ (pw 0) p1 c1 l1) (by exact ev_up (by omega)) ?_
                                refine lv_istore (lv' := [(16, .int (iI (evZ (pw 0) p1 c1 l1))), (15, .int (iI 1)), (14, .int (iI l1)), (13, .int (iI c1)), (12, .int (iI p1)), (11, .int (iI s1)), (10, .int (iI ((pw 0) * (la st)))), (8, .long (lI (alZ pw co la vo use nC tdue tlat nT tin sp slp late srv av bd sh now st par dee))), (6, .long (lI sp)), (5, .int (iI st)), (4, .int (iI (smZ y 8))), (0, .ref (q 0)), (1, .ref (q 29)), (2, .int (iI y)), (3, .int (iI od))]) hx hb dL_changes_313 hl (by decide) rfl (fun ls hl => ?_)
                                refine lv_iload hx hb dL_changes_315 (lv_at hl 1 rfl) ?_
                                refine zi_feq (tgt := 426) hx hb (by decide) dL_changes_317 (by decide) (fun c_242 => ?_) (fun c_242 => ?_)
                                · skip
                                  exact absurd c_242 (by decide)
                                · skip
                                  refine lv_iload hx hb dL_changes_320 (lv_at hl 0 rfl) ?_
                                  refine lv_iconst (v := iI (-1)) hx hb dL_changes_322 rfl ?_
                                  refine zi_ceq (tgt := 422) hx hb (by omega) (by decide) dL_changes_323 (by decide) (fun c_243 => ?_) (fun c_243 => ?_)
                                  · skip
                                    refine lv_iconst (v := iI 1) hx hb dL_changes_422 rfl ?_
                                    refine lv_goto (tgt := 427) hx hb dL_changes_423 (by decide) ?_
                                    subst hQ
                                    refine W.widen (k := 1) (n := 6) (by decide) (by decide) ?_
                                    exact zret_z (W1 := fun u9 : (Int → Int) × (Int → Int) × (Int → Int) × (Int → Int) × (Int → Int) × Int × Int × Int × (Int → Int) × Int × (Int → Int) × Int × Int × (Int → Int) => wPW cI cJ cZ q (u9.1) (u9.2.1) (u9.2.2.1) (u9.2.2.2.1) cpar fr cdee use (u9.2.2.2.2.1) nC tdue tlat twk nT edue elat ewk nE (u9.2.2.2.2.2.2.2.2.2.2.1) (u9.2.2.2.2.2.2.2.2.2.2.2.1) tin (u9.2.2.2.2.2.2.1) (u9.2.2.2.2.2.2.2.1) slp late srv hv av bd sh sc lt (u9.2.2.2.2.2.2.2.2.2.2.2.2.1) now (u9.2.2.2.2.2.1) asl (u9.2.2.2.2.2.2.2.2.1) (u9.2.2.2.2.2.2.2.2.2.1) par div dee (u9.2.2.2.2.2.2.2.2.2.2.2.2.2)) (uZ pw s1 p1, uZ co s1 c1, uZ la s1 l1, vo, runx_5, stx_229, spx_230, pex_231, idlx_232, idnx_233, lenx_234, cntx_235, rule, uZ (uZ (uZ w s1 p1) (4 + s1) c1) (8 + s1) l1) hx hb hr hP hD hS hlocks dL_changes_427 (by first | decide | omega) (by exact ⟨rfl, hI8⟩)
                                  · skip
                                    refine lv_iload hx hb dL_changes_326 (lv_at hl 0 rfl) ?_
                                    refine lv_iload hx hb dL_changes_328 (lv_at hl 2 rfl) ?_
                                    refine zi_clt (tgt := 426) hx hb (by omega) (by omega) dL_changes_330 (by decide) (fun c_244 => ?_) (fun c_244 => ?_)
                                    · skip
                                      exact absurd c_244 (by omega)
                                    · skip
                                      refine lv_iload hx hb dL_changes_333 (lv_at hl 0 rfl) ?_
                                      refine lv_sipush (v := iI 5000) hx hb dL_changes_335 (by decide) ?_
                                      refine zi_cgt (tgt := 426) hx hb (by omega) (by decide) dL_changes_338 (by decide) (fun c_245 => ?_) (fun c_245 => ?_)
                                      · skip
                                        exact absurd c_245 (by omega)
                                      · skip
                                        refine lv_iload hx hb dL_changes_341 (lv_at hl 3 rfl) ?_
                                        refine zi_l hx hb (by omega) dL_changes_343 ?_
                                        refine lv_iload hx hb dL_changes_344 (lv_at hl 4 rfl) ?_
                                        refine zi_l hx hb (by omega) dL_changes_346 ?_
                                        refine lv_iload hx hb dL_changes_347 (lv_at hl 0 rfl) ?_
                                        refine lv_iload hx hb dL_changes_349 (lv_at hl 2 rfl) ?_
                                        refine zi_sub hx hb dL_changes_351 ?_
                                        refine zi_l hx hb (by omega) dL_changes_352 ?_
                                        refine zl_mul hx hb dL_changes_353 ?_
                                        refine zl_add hx hb dL_changes_354 ?_
                                        refine lv_aload_n hx hb dL_changes_355 rfl (lv_at hl 12 rfl) ?_
                                        refine lv_iconst (v := iI 0) hx hb dL_changes_356 rfl ?_
                                        refine za_ld hx hb hK hP 29 0 rfl rfl (by omega) (by omega) dL_changes_357 ?_
                                        refine ze_i (y := pw 0) (by rw [uZ_n _ _ (by omega), uZ_n _ _ (by omega), uZ_n _ _ (by omega)]; exact hw0 _ (by omega) (by omega)) ?_
                                        refine zi_l hx hb (by omega) dL_changes_358 ?_
                                        refine lv_iload hx hb dL_changes_359 (lv_at hl 2 rfl) ?_
                                        refine zi_l hx hb (by omega) dL_changes_361 ?_
                                        refine zl_mul hx hb dL_changes_362 ?_
                                        refine zl_add hx hb dL_changes_363 ?_
                                        refine lv_aload_n hx hb dL_changes_364 rfl (lv_at hl 12 rfl) ?_
                                        refine lv_iconst (v := iI 0) hx hb dL_changes_365 rfl ?_
                                        refine za_ld hx hb hK hP 29 0 rfl rfl (by omega) (by omega) dL_changes_366 ?_
                                        refine ze_i (y := pw 0) (by rw [uZ_n _ _ (by omega), uZ_n _ _ (by omega), uZ_n _ _ (by omega)]; exact hw0 _ (by omega) (by omega)) ?_
                                        refine zi_l hx hb (by omega) dL_changes_367 ?_
                                        refine lv_iload hx hb dL_changes_368 (lv_at hl 0 rfl) ?_
                                        refine zi_l hx hb (by omega) dL_changes_370 ?_
                                        refine zl_mul hx hb dL_changes_371 ?_
                                        refine zl_cgt (tgt := 426) hx hb (by omega) (by omega) dL_changes_372 dL_changes_373 (by decide) (fun c_246 => ?_) (fun c_246 => ?_)
                                        · skip
                                          exact absurd c_246 (by omega)
                                        · skip
                                          refine lv_iload hx hb dL_changes_376 (lv_at hl 0 rfl) ?_
                                          refine lv_iload hx hb dL_changes_378 (lv_at hl 2 rfl) ?_
                                          refine zi_ceq (tgt := 422) hx hb (by omega) (by omega) dL_changes_380 (by decide) (fun c_247 => ?_) (fun c_247 => ?_)
                                          · skip
                                            refine lv_iconst (v := iI 1) hx hb dL_changes_422 rfl ?_
                                            refine lv_goto (tgt := 427) hx hb dL_changes_423 (by decide) ?_
                                            subst hQ
                                            refine W.widen (k := 1) (n := 6) (by decide) (by decide) ?_
                                            exact zret_z (W1 := fun u9 : (Int → Int) × (Int → Int) × (Int → Int) × (Int → Int) × (Int → Int) × Int × Int × Int × (Int → Int) × Int × (Int → Int) × Int × Int × (Int → Int) => wPW cI cJ cZ q (u9.1) (u9.2.1) (u9.2.2.1) (u9.2.2.2.1) cpar fr cdee use (u9.2.2.2.2.1) nC tdue tlat twk nT edue elat ewk nE (u9.2.2.2.2.2.2.2.2.2.2.1) (u9.2.2.2.2.2.2.2.2.2.2.2.1) tin (u9.2.2.2.2.2.2.1) (u9.2.2.2.2.2.2.2.1) slp late srv hv av bd sh sc lt (u9.2.2.2.2.2.2.2.2.2.2.2.2.1) now (u9.2.2.2.2.2.1) asl (u9.2.2.2.2.2.2.2.2.1) (u9.2.2.2.2.2.2.2.2.2.1) par div dee (u9.2.2.2.2.2.2.2.2.2.2.2.2.2)) (uZ pw s1 p1, uZ co s1 c1, uZ la s1 l1, vo, runx_5, stx_229, spx_230, pex_231, idlx_232, idnx_233, lenx_234, cntx_235, rule, uZ (uZ (uZ w s1 p1) (4 + s1) c1) (8 + s1) l1) hx hb hr hP hD hS hlocks dL_changes_427 (by first | decide | omega) (by exact ⟨rfl, hI8⟩)
                                          · skip
                                            refine lv_iload hx hb dL_changes_383 (lv_at hl 3 rfl) ?_
                                            refine zi_l hx hb (by omega) dL_changes_385 ?_
                                            refine lv_iload hx hb dL_changes_386 (lv_at hl 4 rfl) ?_
                                            refine zi_l hx hb (by omega) dL_changes_388 ?_
                                            refine lv_iload hx hb dL_changes_389 (lv_at hl 0 rfl) ?_
                                            refine lv_iconst (v := iI 1) hx hb dL_changes_391 rfl ?_
                                            refine zi_sub hx hb dL_changes_392 ?_
                                            refine lv_iload hx hb dL_changes_393 (lv_at hl 2 rfl) ?_
                                            refine zi_sub hx hb dL_changes_395 ?_
                                            refine zi_l hx hb (by omega) dL_changes_396 ?_
                                            refine zl_mul hx hb dL_changes_397 ?_
                                            refine zl_add hx hb dL_changes_398 ?_
                                            refine lv_aload_n hx hb dL_changes_399 rfl (lv_at hl 12 rfl) ?_
                                            refine lv_iconst (v := iI 0) hx hb dL_changes_400 rfl ?_
                                            refine za_ld hx hb hK hP 29 0 rfl rfl (by omega) (by omega) dL_changes_401 ?_
                                            refine ze_i (y := pw 0) (by rw [uZ_n _ _ (by omega), uZ_n _ _ (by omega), uZ_n _ _ (by omega)]; exact hw0 _ (by omega) (by omega)) ?_
                                            refine zi_l hx hb (by omega) dL_changes_402 ?_
                                            refine lv_iload hx hb dL_changes_403 (lv_at hl 2 rfl) ?_
                                            refine zi_l hx hb (by omega) dL_changes_405 ?_
                                            refine zl_mul hx hb dL_changes_406 ?_
                                            refine zl_add hx hb dL_changes_407 ?_
                                            refine lv_aload_n hx hb dL_changes_408 rfl (lv_at hl 12 rfl) ?_
                                            refine lv_iconst (v := iI 0) hx hb dL_changes_409 rfl ?_
                                            refine za_ld hx hb hK hP 29 0 rfl rfl (by omega) (by omega) dL_changes_410 ?_
                                            refine ze_i (y := pw 0) (by rw [uZ_n _ _ (by omega), uZ_n _ _ (by omega), uZ_n _ _ (by omega)]; exact hw0 _ (by omega) (by omega)) ?_
                                            refine zi_l hx hb (by omega) dL_changes_411 ?_
                                            refine lv_iload hx hb dL_changes_412 (lv_at hl 0 rfl) ?_
                                            refine lv_iconst (v := iI 1) hx hb dL_changes_414 rfl ?_
                                            refine zi_sub hx hb dL_changes_415 ?_
                                            refine zi_l hx hb (by omega) dL_changes_416 ?_
                                            refine zl_mul hx hb dL_changes_417 ?_
                                            refine zl_cle (tgt := 426) hx hb (by omega) (by omega) dL_changes_418 dL_changes_419 (by decide) (fun c_248 => ?_) (fun c_248 => ?_)
                                            · skip
                                              exact absurd c_248 (by omega)
                                            · skip
                                              refine lv_iconst (v := iI 1) hx hb dL_changes_422 rfl ?_
                                              refine lv_goto (tgt := 427) hx hb dL_changes_423 (by decide) ?_
                                              subst hQ
                                              refine W.widen (k := 1) (n := 6) (by decide) (by decide) ?_
                                              exact zret_z (W1 := fun u9 : (Int → Int) × (Int → Int) × (Int → Int) × (Int → Int) × (Int → Int) × Int × Int × Int × (Int → Int) × Int × (Int → Int) × Int × Int × (Int → Int) => wPW cI cJ cZ q (u9.1) (u9.2.1) (u9.2.2.1) (u9.2.2.2.1) cpar fr cdee use (u9.2.2.2.2.1) nC tdue tlat twk nT edue elat ewk nE (u9.2.2.2.2.2.2.2.2.2.2.1) (u9.2.2.2.2.2.2.2.2.2.2.2.1) tin (u9.2.2.2.2.2.2.1) (u9.2.2.2.2.2.2.2.1) slp late srv hv av bd sh sc lt (u9.2.2.2.2.2.2.2.2.2.2.2.2.1) now (u9.2.2.2.2.2.1) asl (u9.2.2.2.2.2.2.2.2.1) (u9.2.2.2.2.2.2.2.2.2.1) par div dee (u9.2.2.2.2.2.2.2.2.2.2.2.2.2)) (uZ pw s1 p1, uZ co s1 c1, uZ la s1 l1, vo, runx_5, stx_229, spx_230, pex_231, idlx_232, idnx_233, lenx_234, cntx_235, rule, uZ (uZ (uZ w s1 p1) (4 + s1) c1) (8 + s1) l1) hx hb hr hP hD hS hlocks dL_changes_427 (by first | decide | omega) (by exact ⟨rfl, hI8⟩)
                          · skip
                            exact L216  (by omega) H locs hP hD hS ls (lv_sub hl [0, 1, 2, 3, 4, 5, 6, 7, 8, 9, 10, 11, 12] rfl)
          refine lv_iload_n hx hb dL_changes_136 rfl (lv_at hl 11 rfl) ?_
          refine zi_feq (tgt := 155) hx hb (by omega) dL_changes_137 (by decide) (fun c_249 => ?_) (fun c_249 => ?_)
          · skip
            refine lv_iload_n hx hb dL_changes_155 rfl (lv_at hl 10 rfl) ?_
            refine lv_bipush (v := iI 12) hx hb dL_changes_156 (by decide) ?_
            refine zi_shr hx hb dL_changes_158 ?_
            refine lv_bipush (v := iI 9) hx hb dL_changes_159 (by decide) ?_
            refine zc_pi (va_runS (As := [.int (iI (shrZ y 12)), .int (iI 9)]) (rest := []) ⟨hx, hb, hml, hown, hts⟩ (kL_some l dC dI cI cJ cZ (shrZ y 12) 9 (by first | assumption | omega | exact b2i_01 _ | exact shr_r _ _) (by first | assumption | omega | exact b2i_01 _ | exact shr_r _ _)) (va_cwS 2 hts gL_changes_L_some rfl rfl rfl (by decide +kernel) ⟨Nat.le_of_ble_eq_true rfl, Nat.le_of_ble_eq_true rfl⟩) (zqS hK hP [] rfl) rfl rfl hl.1 rfl (lv_room (Nat.le_of_ble_eq_true rfl)) dL_changes_161 ⟨Nat.le_of_ble_eq_true rfl, Nat.le_of_ble_eq_true rfl⟩) ?_
            have e_250 := sm_r (shrZ y 12) (show (0 : Int) < 9 by decide)
            exact L164 (smZ (shrZ y 12) 9) (by omega) H locs hP hD hS ls (lv_sub hl [0, 1, 2, 3, 4, 5, 6, 7, 8, 9, 10, 11] rfl)
          · skip
            refine lv_iload_n hx hb dL_changes_140 rfl (lv_at hl 10 rfl) ?_
            refine lv_bipush (v := iI 12) hx hb dL_changes_141 (by decide) ?_
            refine zi_shr hx hb dL_changes_143 ?_
            refine lv_bipush (v := iI 120) hx hb dL_changes_144 (by decide) ?_
            refine zc_pi (va_runS (As := [.int (iI (shrZ y 12)), .int (iI 120)]) (rest := []) ⟨hx, hb, hml, hown, hts⟩ (kL_some l dC dI cI cJ cZ (shrZ y 12) 120 (by first | assumption | omega | exact b2i_01 _ | exact shr_r _ _) (by first | assumption | omega | exact b2i_01 _ | exact shr_r _ _)) (va_cwS 2 hts gL_changes_L_some rfl rfl rfl (by decide +kernel) ⟨Nat.le_of_ble_eq_true rfl, Nat.le_of_ble_eq_true rfl⟩) (zqS hK hP [] rfl) rfl rfl hl.1 rfl (lv_room (Nat.le_of_ble_eq_true rfl)) dL_changes_146 ⟨Nat.le_of_ble_eq_true rfl, Nat.le_of_ble_eq_true rfl⟩) ?_
            have e_251 := sm_r (shrZ y 12) (show (0 : Int) < 120 by decide)
            refine lv_bipush (v := iI 10) hx hb dL_changes_149 (by decide) ?_
            refine zi_sub hx hb dL_changes_151 ?_
            refine lv_goto (tgt := 164) hx hb dL_changes_152 (by decide) ?_
            exact L164 ((smZ (shrZ y 12) 120) - 10) (by omega) H locs hP hD hS ls (lv_sub hl [0, 1, 2, 3, 4, 5, 6, 7, 8, 9, 10, 11] rfl)
        refine lv_iload_n hx hb dL_changes_104 rfl (lv_at hl 10 rfl) ?_
        refine zi_feq (tgt := 124) hx hb (by omega) dL_changes_105 (by decide) (fun c_252 => ?_) (fun c_252 => ?_)
        · skip
          refine lv_iload_n hx hb dL_changes_124 rfl (lv_at hl 9 rfl) ?_
          refine lv_bipush (v := iI 9) hx hb dL_changes_125 (by decide) ?_
          refine zi_shr hx hb dL_changes_127 ?_
          refine lv_sipush (v := iI 400) hx hb dL_changes_128 (by decide) ?_
          refine zc_pi (va_runS (As := [.int (iI (shrZ y 9)), .int (iI 400)]) (rest := []) ⟨hx, hb, hml, hown, hts⟩ (kL_some l dC dI cI cJ cZ (shrZ y 9) 400 (by first | assumption | omega | exact b2i_01 _ | exact shr_r _ _) (by first | assumption | omega | exact b2i_01 _ | exact shr_r _ _)) (va_cwS 2 hts gL_changes_L_some rfl rfl rfl (by decide +kernel) ⟨Nat.le_of_ble_eq_true rfl, Nat.le_of_ble_eq_true rfl⟩) (zqS hK hP [] rfl) rfl rfl hl.1 rfl (lv_room (Nat.le_of_ble_eq_true rfl)) dL_changes_131 ⟨Nat.le_of_ble_eq_true rfl, Nat.le_of_ble_eq_true rfl⟩) ?_
          have e_253 := sm_r (shrZ y 9) (show (0 : Int) < 400 by decide)
          exact L134 (smZ (shrZ y 9) 400) (by omega) H locs hP hD hS ls (lv_sub hl [0, 1, 2, 3, 4, 5, 6, 7, 8, 9, 10] rfl)
        · skip
          refine lv_iload_n hx hb dL_changes_108 rfl (lv_at hl 9 rfl) ?_
          refine lv_bipush (v := iI 9) hx hb dL_changes_109 (by decide) ?_
          refine zi_shr hx hb dL_changes_111 ?_
          refine lv_sipush (v := iI 10020) hx hb dL_changes_112 (by decide) ?_
          refine zc_pi (va_runS (As := [.int (iI (shrZ y 9)), .int (iI 10020)]) (rest := []) ⟨hx, hb, hml, hown, hts⟩ (kL_some l dC dI cI cJ cZ (shrZ y 9) 10020 (by first | assumption | omega | exact b2i_01 _ | exact shr_r _ _) (by first | assumption | omega | exact b2i_01 _ | exact shr_r _ _)) (va_cwS 2 hts gL_changes_L_some rfl rfl rfl (by decide +kernel) ⟨Nat.le_of_ble_eq_true rfl, Nat.le_of_ble_eq_true rfl⟩) (zqS hK hP [] rfl) rfl rfl hl.1 rfl (lv_room (Nat.le_of_ble_eq_true rfl)) dL_changes_115 ⟨Nat.le_of_ble_eq_true rfl, Nat.le_of_ble_eq_true rfl⟩) ?_
          have e_254 := sm_r (shrZ y 9) (show (0 : Int) < 10020 by decide)
          refine lv_bipush (v := iI 10) hx hb dL_changes_118 (by decide) ?_
          refine zi_sub hx hb dL_changes_120 ?_
          refine lv_goto (tgt := 134) hx hb dL_changes_121 (by decide) ?_
          exact L134 ((smZ (shrZ y 9) 10020) - 10) (by omega) H locs hP hD hS ls (lv_sub hl [0, 1, 2, 3, 4, 5, 6, 7, 8, 9, 10] rfl)
      refine lv_iload_n hx hb dL_changes_73 rfl (lv_at hl 9 rfl) ?_
      refine zi_feq (tgt := 93) hx hb (by omega) dL_changes_74 (by decide) (fun c_255 => ?_) (fun c_255 => ?_)
      · skip
        refine lv_iload_n hx hb dL_changes_93 rfl (lv_at hl 8 rfl) ?_
        refine lv_bipush (v := iI 6) hx hb dL_changes_94 (by decide) ?_
        refine zi_shr hx hb dL_changes_96 ?_
        refine lv_bipush (v := iI 80) hx hb dL_changes_97 (by decide) ?_
        refine zc_pi (va_runS (As := [.int (iI (shrZ y 6)), .int (iI 80)]) (rest := []) ⟨hx, hb, hml, hown, hts⟩ (kL_some l dC dI cI cJ cZ (shrZ y 6) 80 (by first | assumption | omega | exact b2i_01 _ | exact shr_r _ _) (by first | assumption | omega | exact b2i_01 _ | exact shr_r _ _)) (va_cwS 2 hts gL_changes_L_some rfl rfl rfl (by decide +kernel) ⟨Nat.le_of_ble_eq_true rfl, Nat.le_of_ble_eq_true rfl⟩) (zqS hK hP [] rfl) rfl rfl hl.1 rfl (lv_room (Nat.le_of_ble_eq_true rfl)) dL_changes_99 ⟨Nat.le_of_ble_eq_true rfl, Nat.le_of_ble_eq_true rfl⟩) ?_
        have e_256 := sm_r (shrZ y 6) (show (0 : Int) < 80 by decide)
        exact L102 (smZ (shrZ y 6) 80) (by omega) H locs hP hD hS ls (lv_sub hl [0, 1, 2, 3, 4, 5, 6, 7, 8, 9] rfl)
      · skip
        refine lv_iload_n hx hb dL_changes_77 rfl (lv_at hl 8 rfl) ?_
        refine lv_bipush (v := iI 6) hx hb dL_changes_78 (by decide) ?_
        refine zi_shr hx hb dL_changes_80 ?_
        refine lv_sipush (v := iI 1020) hx hb dL_changes_81 (by decide) ?_
        refine zc_pi (va_runS (As := [.int (iI (shrZ y 6)), .int (iI 1020)]) (rest := []) ⟨hx, hb, hml, hown, hts⟩ (kL_some l dC dI cI cJ cZ (shrZ y 6) 1020 (by first | assumption | omega | exact b2i_01 _ | exact shr_r _ _) (by first | assumption | omega | exact b2i_01 _ | exact shr_r _ _)) (va_cwS 2 hts gL_changes_L_some rfl rfl rfl (by decide +kernel) ⟨Nat.le_of_ble_eq_true rfl, Nat.le_of_ble_eq_true rfl⟩) (zqS hK hP [] rfl) rfl rfl hl.1 rfl (lv_room (Nat.le_of_ble_eq_true rfl)) dL_changes_84 ⟨Nat.le_of_ble_eq_true rfl, Nat.le_of_ble_eq_true rfl⟩) ?_
        have e_257 := sm_r (shrZ y 6) (show (0 : Int) < 1020 by decide)
        refine lv_bipush (v := iI 10) hx hb dL_changes_87 (by decide) ?_
        refine zi_sub hx hb dL_changes_89 ?_
        refine lv_goto (tgt := 102) hx hb dL_changes_90 (by decide) ?_
        exact L102 ((smZ (shrZ y 6) 1020) - 10) (by omega) H locs hP hD hS ls (lv_sub hl [0, 1, 2, 3, 4, 5, 6, 7, 8, 9] rfl)
    refine lv_iload_n hx hb dL_changes_45 rfl (lv_at hl 8 rfl) ?_
    refine zi_feq (tgt := 62) hx hb (by omega) dL_changes_46 (by decide) (fun c_258 => ?_) (fun c_258 => ?_)
    · skip
      refine lv_iconst (v := iI 1) hx hb dL_changes_62 rfl ?_
      refine lv_iload_n hx hb dL_changes_63 rfl (lv_at hl 7 rfl) ?_
      refine lv_iconst (v := iI 3) hx hb dL_changes_64 rfl ?_
      refine zi_shr hx hb dL_changes_65 ?_
      refine lv_iconst (v := iI 3) hx hb dL_changes_66 rfl ?_
      refine zc_pi (va_runS (As := [.int (iI (shrZ y 3)), .int (iI 3)]) (rest := [.int (iI 1)]) ⟨hx, hb, hml, hown, hts⟩ (kL_some l dC dI cI cJ cZ (shrZ y 3) 3 (by first | assumption | omega | exact b2i_01 _ | exact shr_r _ _) (by first | assumption | omega | exact b2i_01 _ | exact shr_r _ _)) (va_cwS 2 hts gL_changes_L_some rfl rfl rfl (by decide +kernel) ⟨Nat.le_of_ble_eq_true rfl, Nat.le_of_ble_eq_true rfl⟩) (zqS hK hP [] rfl) rfl rfl hl.1 rfl (lv_room (Nat.le_of_ble_eq_true rfl)) dL_changes_67 ⟨Nat.le_of_ble_eq_true rfl, Nat.le_of_ble_eq_true rfl⟩) ?_
      have e_259 := sm_r (shrZ y 3) (show (0 : Int) < 3 by decide)
      refine zi_add hx hb dL_changes_70 ?_
      exact L71 (1 + (smZ (shrZ y 3) 3)) (by omega) H locs hP hD hS ls (lv_sub hl [0, 1, 2, 3, 4, 5, 6, 7, 8] rfl)
    · skip
      refine lv_iload_n hx hb dL_changes_49 rfl (lv_at hl 7 rfl) ?_
      refine lv_iconst (v := iI 3) hx hb dL_changes_50 rfl ?_
      refine zi_shr hx hb dL_changes_51 ?_
      refine lv_bipush (v := iI 6) hx hb dL_changes_52 (by decide) ?_
      refine zc_pi (va_runS (As := [.int (iI (shrZ y 3)), .int (iI 6)]) (rest := []) ⟨hx, hb, hml, hown, hts⟩ (kL_some l dC dI cI cJ cZ (shrZ y 3) 6 (by first | assumption | omega | exact b2i_01 _ | exact shr_r _ _) (by first | assumption | omega | exact b2i_01 _ | exact shr_r _ _)) (va_cwS 2 hts gL_changes_L_some rfl rfl rfl (by decide +kernel) ⟨Nat.le_of_ble_eq_true rfl, Nat.le_of_ble_eq_true rfl⟩) (zqS hK hP [] rfl) rfl rfl hl.1 rfl (lv_room (Nat.le_of_ble_eq_true rfl)) dL_changes_54 ⟨Nat.le_of_ble_eq_true rfl, Nat.le_of_ble_eq_true rfl⟩) ?_
      have e_260 := sm_r (shrZ y 3) (show (0 : Int) < 6 by decide)
      refine lv_iconst (v := iI 1) hx hb dL_changes_57 rfl ?_
      refine zi_sub hx hb dL_changes_58 ?_
      refine lv_goto (tgt := 71) hx hb dL_changes_59 (by decide) ?_
      exact L71 ((smZ (shrZ y 3) 6) - 1) (by omega) H locs hP hD hS ls (lv_sub hl [0, 1, 2, 3, 4, 5, 6, 7, 8] rfl)
