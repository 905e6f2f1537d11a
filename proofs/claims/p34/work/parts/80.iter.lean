/-! the law -/
def lEnv (p : Program) (l : Launch) (s : State) (m : MethodId) (c : Code) (A : Nat → Prop) (dC : Nat → ClassId) (dI : Nat → Nat → Nat) (cI cJ cZ : ClassId) (b L : Nat) (xs : Nat → Int32) : Prop :=
  p.tables.exec = Jvm.exec ∧ c.code = cL_law ∧ c.maxLocals = 9 ∧ s.vm.findClass RL = some m.cls ∧ (∀ w ∈ wsL_law, w.before #[Value.ref b] s = true) ∧ l.stackTraces = false ∧ zX A s ∧ zY s ∧ zK (dC, dI) (zT cI cJ cZ) s ∧ va_X b L xs s s.heap ∧ b < s.heap.size ∧ ¬ A b ∧ (∀ q9 : Nat, s.heap.size ≤ q9 → A q9) ∧ L ≤ 260
/-- how it goes on from pc with the locals lvs, whatever the planner is by then -/
def lIh (p : Program) (l : Launch) (e : Env) (s : State) (m : MethodId) (below : List Frame) (meth : Method) (c : Code) (Q : State → Prop) (A : Nat → Prop) (dC : Nat → ClassId) (dI : Nat → Nat → Nat) (cI cJ cZ : ClassId) (q : Nat → Nat) (b : Nat) (pc : Nat) (lvs : List (Nat × Value)) (K : Int) (cells slots : Nat) : Prop :=
  ∀ (pw : Int → Int) (co : Int → Int) (la : Int → Int) (vo : Int → Int) (cpar : Int → Int) (fr : Int → Int) (cdee : Int → Int) (use : Int → Int) (run : Int → Int) (nC : Int) (tdue : Int → Int) (tlat : Int → Int) (twk : Int → Int) (nT : Int) (edue : Int → Int) (elat : Int → Int) (ewk : Int → Int) (nE : Int) (len : Int → Int) (cnt : Int) (tin : Int → Int) (sp : Int) (pe : Int) (slp : Int) (late : Int) (srv : Int) (hv : Int → Int) (av : Int) (bd : Int) (sh : Int) (sc : Int → Int) (lt : Int → Int) (rule : Int) (now : Int) (st : Int) (asl : Int) (idl : Int → Int) (idn : Int) (par : Int → Int) (div : Int → Int) (dee : Int → Int) (w : Int → Int) (H : Heap) (locs : List Loc), LJ K pw co la vo cdee use run nC tdue tlat twk nT edue elat ewk nE len cnt tin sp pe slp late srv hv av bd sh rule now st asl idl idn dee w → va_P (dC, dI) vwCl (wPW cI cJ cZ q pw co la vo cpar fr cdee use run nC tdue tlat twk nT edue elat ewk nE len cnt tin sp pe slp late srv hv av bd sh sc lt rule now st asl idl idn par div dee w) H → va_D A (wPW cI cJ cZ q pw co la vo cpar fr cdee use run nC tdue tlat twk nT edue elat ewk nE len cnt tin sp pe slp late srv hv av bd sh sc lt rule now st asl idl idn par div dee w) → va_S A s.heap H locs → ∀ ls : Array Slot, lv_has ls 9 lvs → W p l e room_1 s m #[Value.ref b] below meth c H locs cells slots Q (F0 m pc ls [])
set_option maxRecDepth 100000 in
set_option maxHeartbeats 4000000 in
theorem law_a {p : Program} {l : Launch} {e : Env} {s : State} {m : MethodId} {below : List Frame} {meth : Method} {c : Code} {Q : State → Prop} {A : Nat → Prop} {dC : Nat → ClassId} {dI : Nat → Nat → Nat} {cI cJ cZ : ClassId} {q : Nat → Nat} {b L : Nat} {xs : Nat → Int32} {k K : Int} {cells slots : Nat} {pw : Int → Int} {co : Int → Int} {la : Int → Int} {vo : Int → Int} {cpar : Int → Int} {fr : Int → Int} {cdee : Int → Int} {use : Int → Int} {run : Int → Int} {nC : Int} {tdue : Int → Int} {tlat : Int → Int} {twk : Int → Int} {nT : Int} {edue : Int → Int} {elat : Int → Int} {ewk : Int → Int} {nE : Int} {len : Int → Int} {cnt : Int} {tin : Int → Int} {sp : Int} {pe : Int} {slp : Int} {late : Int} {srv : Int} {hv : Int → Int} {av : Int} {bd : Int} {sh : Int} {sc : Int → Int} {lt : Int → Int} {rule : Int} {now : Int} {st : Int} {asl : Int} {idl : Int → Int} {idn : Int} {par : Int → Int} {div : Int → Int} {dee : Int → Int} {w : Int → Int} (hE : lEnv p l s m c A dC dI cI cJ cZ b L xs) (hk : 0 ≤ k ∧ k < 44) (hK9 : 0 ≤ K ∧ K ≤ 90000) (hc : cells + 1 ≤ 155 ∧ slots + 6 ≤ 1980) (ih : lIh p l e s m below meth c Q A dC dI cI cJ cZ q b 159 [(5, .int (iI (cellZ xs L (2 * k)))), (4, .int (iI k)), (3, .int (iI 1)), (0, .ref b), (1, .ref (q 0)), (2, .ref (q 29))] (K + 200) (cells + 1) (slots + 6)) (hI : LJ K pw co la vo cdee use run nC tdue tlat twk nT edue elat ewk nE len cnt tin sp pe slp late srv hv av bd sh rule now st asl idl idn dee w) {H : Heap} {locs : List Loc} (hP : va_P (dC, dI) vwCl (wPW cI cJ cZ q pw co la vo cpar fr cdee use run nC tdue tlat twk nT edue elat ewk nE len cnt tin sp pe slp late srv hv av bd sh sc lt rule now st asl idl idn par div dee w) H) (hD : va_D A (wPW cI cJ cZ q pw co la vo cpar fr cdee use run nC tdue tlat twk nT edue elat ewk nE len cnt tin sp pe slp late srv hv av bd sh sc lt rule now st asl idl idn par div dee w)) (hS : va_S A s.heap H locs) {ls : Array Slot} (hl : lv_has ls 9 [(4, .int (iI k)), (3, .int (iI 1)), (0, .ref b), (1, .ref (q 0)), (2, .ref (q 29))]) : W p l e room_1 s m #[Value.ref b] below meth c H locs cells slots Q (F0 m 56 ls []) := by
  obtain ⟨hx, hb, hml, hown, hts, htr, hX, hY, hK, hXs, hbl, hbA, hA, hL⟩ := id hE
  refine lv_aload_n hx hb dL_law_56 rfl (lv_at hl 2 rfl) ?_
  refine lv_iconst (v := iI 2) hx hb dL_law_57 rfl ?_
  refine lv_iload hx hb dL_law_58 (lv_at hl 0 rfl) ?_
  refine zi_mul hx hb dL_law_60 ?_
  refine zc_pi (va_runS (As := [.ref b, .int (iI (2 * k))]) (rest := []) ⟨hx, hb, hml, hown, hts⟩ (kL_cell l b L xs (2 * k) (by omega) (by omega)) (va_cwS 2 hts gL_law_L_cell rfl rfl rfl (by decide +kernel) ⟨Nat.le_of_ble_eq_true rfl, Nat.le_of_ble_eq_true rfl⟩) (zxP hXs hbl hbA hS) rfl rfl hl.1 rfl (lv_room (Nat.le_of_ble_eq_true rfl)) dL_law_61 ⟨(by show _ ≤ 155; omega), (by show _ ≤ 1980; omega)⟩) ?_
  refine lv_istore (lv' := [(5, .int (iI (cellZ xs L (2 * k)))), (4, .int (iI k)), (3, .int (iI 1)), (0, .ref b), (1, .ref (q 0)), (2, .ref (q 29))]) hx hb dL_law_64 hl (by decide) rfl (fun ls hl => ?_)
  refine lv_aload_n hx hb dL_law_66 rfl (lv_at hl 3 rfl) ?_
  refine lv_iconst (v := iI 2) hx hb dL_law_67 rfl ?_
  refine lv_iload hx hb dL_law_68 (lv_at hl 1 rfl) ?_
  refine zi_mul hx hb dL_law_70 ?_
  refine lv_iconst (v := iI 1) hx hb dL_law_71 rfl ?_
  refine zi_add hx hb dL_law_72 ?_
  refine zc_pi (va_runS (As := [.ref b, .int (iI ((2 * k) + 1))]) (rest := []) ⟨hx, hb, hml, hown, hts⟩ (kL_cell l b L xs ((2 * k) + 1) (by omega) (by omega)) (va_cwS 2 hts gL_law_L_cell rfl rfl rfl (by decide +kernel) ⟨Nat.le_of_ble_eq_true rfl, Nat.le_of_ble_eq_true rfl⟩) (zxP hXs hbl hbA hS) rfl rfl hl.1 rfl (lv_room (Nat.le_of_ble_eq_true rfl)) dL_law_73 ⟨(by show _ ≤ 155; omega), (by show _ ≤ 1980; omega)⟩) ?_
  refine lv_istore (lv' := [(6, .int (iI (cellZ xs L ((2 * k) + 1)))), (5, .int (iI (cellZ xs L (2 * k)))), (4, .int (iI k)), (3, .int (iI 1)), (0, .ref b), (1, .ref (q 0)), (2, .ref (q 29))]) hx hb dL_law_76 hl (by decide) rfl (fun ls hl => ?_)
  refine lv_iload hx hb dL_law_78 (lv_at hl 1 rfl) ?_
  refine lv_bipush (v := iI 9) hx hb dL_law_80 (by decide) ?_
  refine zi_shr hx hb dL_law_82 ?_
  refine lv_bipush (v := iI 10) hx hb dL_law_83 (by decide) ?_
  refine zc_pi (va_runS (As := [.int (iI (shrZ (cellZ xs L (2 * k)) 9)), .int (iI 10)]) (rest := []) ⟨hx, hb, hml, hown, hts⟩ (kL_some l dC dI cI cJ cZ (shrZ (cellZ xs L (2 * k)) 9) 10 (by first | assumption | omega | exact b2i_01 _ | exact shr_r _ _ | exact cell_r _ _ _) (by first | assumption | omega | exact b2i_01 _ | exact shr_r _ _ | exact cell_r _ _ _)) (va_cwS 2 hts gL_law_L_some rfl rfl rfl (by decide +kernel) ⟨Nat.le_of_ble_eq_true rfl, Nat.le_of_ble_eq_true rfl⟩) (zqS hK hP [] rfl) rfl rfl hl.1 rfl (lv_room (Nat.le_of_ble_eq_true rfl)) dL_law_85 ⟨(by show _ ≤ 155; omega), (by show _ ≤ 1980; omega)⟩) ?_
  have e_1 := sm_r (shrZ (cellZ xs L (2 * k)) 9) (show (0 : Int) < 10 by decide)
  have L96 : ∀ (od : Int), (zR od) → ∀ (H : Heap) (locs : List Loc), va_P (dC, dI) vwCl (wPW cI cJ cZ q pw co la vo cpar fr cdee use run nC tdue tlat twk nT edue elat ewk nE len cnt tin sp pe slp late srv hv av bd sh sc lt rule now st asl idl idn par div dee w) H → va_D A (wPW cI cJ cZ q pw co la vo cpar fr cdee use run nC tdue tlat twk nT edue elat ewk nE len cnt tin sp pe slp late srv hv av bd sh sc lt rule now st asl idl idn par div dee w) → va_S A s.heap H locs → ∀ ls : Array Slot, lv_has ls 9 [(6, .int (iI (cellZ xs L ((2 * k) + 1)))), (5, .int (iI (cellZ xs L (2 * k)))), (4, .int (iI k)), (3, .int (iI 1)), (0, .ref b), (1, .ref (q 0)), (2, .ref (q 29))] → W p l e room_1 s m #[Value.ref b] below meth c H locs cells slots Q (F0 m 96 ls [.int (iI od)]) := by
    intro od hod H locs hP hD hS ls hl
    refine lv_istore (lv' := [(7, .int (iI od)), (6, .int (iI (cellZ xs L ((2 * k) + 1)))), (5, .int (iI (cellZ xs L (2 * k)))), (4, .int (iI k)), (3, .int (iI 1)), (0, .ref b), (1, .ref (q 0)), (2, .ref (q 29))]) hx hb dL_law_96 hl (by decide) rfl (fun ls hl => ?_)
    refine lv_iload hx hb dL_law_98 (lv_at hl 2 rfl) ?_
    refine lv_bipush (v := iI 14) hx hb dL_law_100 (by decide) ?_
    refine zc_pi (va_runS (As := [.int (iI (cellZ xs L (2 * k))), .int (iI 14)]) (rest := []) ⟨hx, hb, hml, hown, hts⟩ (kL_some l dC dI cI cJ cZ (cellZ xs L (2 * k)) 14 (by first | assumption | omega | exact b2i_01 _ | exact shr_r _ _ | exact cell_r _ _ _) (by first | assumption | omega | exact b2i_01 _ | exact shr_r _ _ | exact cell_r _ _ _)) (va_cwS 2 hts gL_law_L_some rfl rfl rfl (by decide +kernel) ⟨Nat.le_of_ble_eq_true rfl, Nat.le_of_ble_eq_true rfl⟩) (zqS hK hP [] rfl) rfl rfl hl.1 rfl (lv_room (Nat.le_of_ble_eq_true rfl)) dL_law_102 ⟨(by show _ ≤ 155; omega), (by show _ ≤ 1980; omega)⟩) ?_
    have e_2 := sm_r (cellZ xs L (2 * k)) (show (0 : Int) < 14 by decide)
    refine lv_istore (lv' := [(8, .int (iI (smZ (cellZ xs L (2 * k)) 14))), (7, .int (iI od)), (6, .int (iI (cellZ xs L ((2 * k) + 1)))), (5, .int (iI (cellZ xs L (2 * k)))), (4, .int (iI k)), (3, .int (iI 1)), (0, .ref b), (1, .ref (q 0)), (2, .ref (q 29))]) hx hb dL_law_105 hl (by decide) rfl (fun ls hl => ?_)
    refine lv_iload hx hb dL_law_107 (lv_at hl 0 rfl) ?_
    refine lv_iconst (v := iI 3) hx hb dL_law_109 rfl ?_
    refine zi_cge (tgt := 125) hx hb (by omega) (by decide) dL_law_110 (by decide) (fun c_3 => ?_) (fun c_3 => ?_)
    · skip
      refine lv_iload hx hb dL_law_125 (lv_at hl 0 rfl) ?_
      refine lv_bipush (v := iI 8) hx hb dL_law_127 (by decide) ?_
      refine zi_cge (tgt := 144) hx hb (by omega) (by decide) dL_law_129 (by decide) (fun c_4 => ?_) (fun c_4 => ?_)
      · skip
        refine lv_aload_n hx hb dL_law_144 rfl (lv_at hl 7 rfl) ?_
        refine lv_aload_n hx hb dL_law_145 rfl (lv_at hl 8 rfl) ?_
        refine lv_iconst (v := iI 1) hx hb dL_law_146 rfl ?_
        refine lv_iload hx hb dL_law_147 (lv_at hl 2 rfl) ?_
        refine lv_bipush (v := iI 12) hx hb dL_law_149 (by decide) ?_
        refine zc_pi (va_runS (As := [.int (iI (cellZ xs L ((2 * k) + 1))), .int (iI 12)]) (rest := [.int (iI 1), .ref (q 29), .ref (q 0)]) ⟨hx, hb, hml, hown, hts⟩ (kL_some l dC dI cI cJ cZ (cellZ xs L ((2 * k) + 1)) 12 (by first | assumption | omega | exact b2i_01 _ | exact shr_r _ _ | exact cell_r _ _ _) (by first | assumption | omega | exact b2i_01 _ | exact shr_r _ _ | exact cell_r _ _ _)) (va_cwS 2 hts gL_law_L_some rfl rfl rfl (by decide +kernel) ⟨Nat.le_of_ble_eq_true rfl, Nat.le_of_ble_eq_true rfl⟩) (zqS hK hP [] rfl) rfl rfl hl.1 rfl (lv_room (Nat.le_of_ble_eq_true rfl)) dL_law_151 ⟨(by show _ ≤ 155; omega), (by show _ ≤ 1980; omega)⟩) ?_
        have e_5 := sm_r (cellZ xs L ((2 * k) + 1)) (show (0 : Int) < 12 by decide)
        refine zi_add hx hb dL_law_154 ?_
        refine zc_i (va_runS (As := [.ref (q 0), .ref (q 29), .int (iI (1 + (smZ (cellZ xs L ((2 * k) + 1)) 12)))]) (rest := []) ⟨hx, hb, hml, hown, hts⟩ (kL_plays l dC dI cI cJ cZ q pw co la vo cpar fr cdee use run nC tdue tlat twk nT edue elat ewk nE len cnt tin sp pe slp late srv hv av bd sh sc lt rule now st asl idl idn par div dee w (1 + (smZ (cellZ xs L ((2 * k) + 1)) 12)) (K) (by omega) (by first | assumption | omega | exact b2i_01 _ | exact shr_r _ _ | exact cell_r _ _ _) (by first | assumption | omega | exact b2i_01 _ | exact shr_r _ _ | exact cell_r _ _ _) H.size) (va_cwS 3 hts gL_law_L_plays rfl rfl rfl (by decide +kernel) ⟨Nat.le_of_ble_eq_true rfl, Nat.le_of_ble_eq_true rfl⟩) (zpS hK hP hD [0, 1, 2, 3, 4, 5, 6, 7, 8, 9, 10, 11, 12, 13, 14, 15, 16, 17, 18, 19, 20, 21, 22, 23, 24, 25, 26, 27, 28, 29] rfl rfl) rfl rfl hl.1 rfl (lv_room (Nat.le_of_ble_eq_true rfl)) dL_law_155 ⟨(by show _ ≤ 155; omega), (by show _ ≤ 1980; omega)⟩) hP hD hS hA [0, 1, 2, 3, 4, 5, 6, 7, 8, 9, 10, 11, 12, 13, 14, 15, 16, 17, 18, 19, 20, 21, 22, 23, 24, 25, 26, 27, 28, 29] [] rfl rfl rfl (by decide) (fun v_8 u_7 H locs r_6 hP hD hS => ?_)
        obtain ⟨stx_9, aslx_10, nowx_11, nTx_12, tduex_13, tlatx_14, twkx_15, nEx_16, eduex_17, ewkx_18, spx_19, pex_20, tinx_21, slpx_22, latex_23, srvx_24, avx_25, bdx_26, shx_27, idlx_28, idnx_29, lenx_30, cntx_31, elatx_32, runx_33⟩ := u_7
        obtain ⟨v_34, r_6⟩ := r_6
        refine ze_i v_34 ?_
        have r_6 : LJ (K + (1 + (smZ (cellZ xs L ((2 * k) + 1)) 12))) pw co la vo cdee use runx_33 nC tduex_13 tlatx_14 twkx_15 nTx_12 eduex_17 elatx_32 ewkx_18 nEx_16 lenx_30 cntx_31 tinx_21 spx_19 pex_20 slpx_22 latex_23 srvx_24 hv avx_25 bdx_26 shx_27 rule nowx_11 stx_9 aslx_10 idlx_28 idnx_29 dee w := r_6
        have hP : va_P (dC, dI) vwCl (wPW cI cJ cZ q pw co la vo cpar fr cdee use runx_33 nC tduex_13 tlatx_14 twkx_15 nTx_12 eduex_17 elatx_32 ewkx_18 nEx_16 lenx_30 cntx_31 tinx_21 spx_19 pex_20 slpx_22 latex_23 srvx_24 hv avx_25 bdx_26 shx_27 sc lt rule nowx_11 stx_9 aslx_10 idlx_28 idnx_29 par div dee w) H := hP
        have hD : va_D A (wPW cI cJ cZ q pw co la vo cpar fr cdee use runx_33 nC tduex_13 tlatx_14 twkx_15 nTx_12 eduex_17 elatx_32 ewkx_18 nEx_16 lenx_30 cntx_31 tinx_21 spx_19 pex_20 slpx_22 latex_23 srvx_24 hv avx_25 bdx_26 shx_27 sc lt rule nowx_11 stx_9 aslx_10 idlx_28 idnx_29 par div dee w) := hD
        have hI9 := r_6
        refine lv_istore_n (lv' := [(3, .int (iI 1)), (8, .int (iI (smZ (cellZ xs L (2 * k)) 14))), (7, .int (iI od)), (6, .int (iI (cellZ xs L ((2 * k) + 1)))), (5, .int (iI (cellZ xs L (2 * k)))), (4, .int (iI k)), (0, .ref b), (1, .ref (q 0)), (2, .ref (q 29))]) hx hb dL_law_158 rfl hl (by decide) rfl (fun ls hl => ?_)
        refine W.widen (k := cells + 1) (n := slots + 6) (by omega) (by omega) ?_
        exact ih pw co la vo cpar fr cdee use runx_33 nC tduex_13 tlatx_14 twkx_15 nTx_12 eduex_17 elatx_32 ewkx_18 nEx_16 lenx_30 cntx_31 tinx_21 spx_19 pex_20 slpx_22 latex_23 srvx_24 hv avx_25 bdx_26 shx_27 sc lt rule nowx_11 stx_9 aslx_10 idlx_28 idnx_29 par div dee w H locs (by first | exact hI9 | exact lj_mono hI9 (by omega)) hP hD hS ls (lv_sub hl [4, 5, 0, 6, 7, 8] rfl)
      · skip
        refine lv_aload_n hx hb dL_law_132 rfl (lv_at hl 7 rfl) ?_
        refine lv_aload_n hx hb dL_law_133 rfl (lv_at hl 8 rfl) ?_
        refine lv_iload hx hb dL_law_134 (lv_at hl 2 rfl) ?_
        refine lv_iload hx hb dL_law_136 (lv_at hl 1 rfl) ?_
        refine zc_i (va_runS (As := [.ref (q 0), .ref (q 29), .int (iI (cellZ xs L ((2 * k) + 1))), .int (iI od)]) (rest := []) ⟨hx, hb, hml, hown, hts⟩ (kL_times l dC dI cI cJ cZ q pw co la vo cpar fr cdee use run nC tdue tlat twk nT edue elat ewk nE len cnt tin sp pe slp late srv hv av bd sh sc lt rule now st asl idl idn par div dee w (cellZ xs L ((2 * k) + 1)) od (K) (by omega) (by first | assumption | omega | exact b2i_01 _ | exact shr_r _ _ | exact cell_r _ _ _) (by first | assumption | omega | exact b2i_01 _ | exact shr_r _ _ | exact cell_r _ _ _) (by first | assumption | omega | exact b2i_01 _ | exact shr_r _ _ | exact cell_r _ _ _) htr H.size) (va_cwS 4 hts gL_law_L_times rfl rfl rfl (by decide +kernel) ⟨Nat.le_of_ble_eq_true rfl, Nat.le_of_ble_eq_true rfl⟩) (zyS hY hX hS hA hK hP hD [0, 1, 2, 3, 4, 5, 6, 7, 8, 9, 10, 11, 12, 13, 14, 15, 16, 17, 18, 19, 20, 21, 22, 23, 24, 25, 26, 27, 28, 29] rfl rfl) rfl rfl hl.1 rfl (lv_room (Nat.le_of_ble_eq_true rfl)) dL_law_138 ⟨(by show _ ≤ 155; omega), (by show _ ≤ 1980; omega)⟩) hP hD hS hA [0, 1, 2, 3, 4, 5, 6, 7, 8, 9, 10, 11, 12, 13, 14, 15, 16, 17, 18, 19, 20, 21, 22, 23, 24, 25, 26, 27, 28, 29] [] rfl rfl rfl (by decide) (fun v_37 u_36 H locs r_35 hP hD hS => ?_)
        obtain ⟨tduex_38, tlatx_39, twkx_40, nTx_41, eduex_42, elatx_43, ewkx_44, nEx_45, runx_46, stx_47, spx_48, pex_49, idlx_50, idnx_51, lenx_52, cntx_53, hvx_54⟩ := u_36
        obtain ⟨v_55, r_35⟩ := r_35
        refine ze_i v_55 ?_
        have r_35 : LJ (K + 200) pw co la vo cdee use runx_46 nC tduex_38 tlatx_39 twkx_40 nTx_41 eduex_42 elatx_43 ewkx_44 nEx_45 lenx_52 cntx_53 tin spx_48 pex_49 slp late srv hvx_54 av bd sh rule now stx_47 asl idlx_50 idnx_51 dee w := r_35
        have hP : va_P (dC, dI) vwCl (wPW cI cJ cZ q pw co la vo cpar fr cdee use runx_46 nC tduex_38 tlatx_39 twkx_40 nTx_41 eduex_42 elatx_43 ewkx_44 nEx_45 lenx_52 cntx_53 tin spx_48 pex_49 slp late srv hvx_54 av bd sh sc lt rule now stx_47 asl idlx_50 idnx_51 par div dee w) H := hP
        have hD : va_D A (wPW cI cJ cZ q pw co la vo cpar fr cdee use runx_46 nC tduex_38 tlatx_39 twkx_40 nTx_41 eduex_42 elatx_43 ewkx_44 nEx_45 lenx_52 cntx_53 tin spx_48 pex_49 slp late srv hvx_54 av bd sh sc lt rule now stx_47 asl idlx_50 idnx_51 par div dee w) := hD
        have hI9 := r_35
        refine lv_goto (tgt := 158) hx hb dL_law_141 (by decide) ?_
        refine lv_istore_n (lv' := [(3, .int (iI 1)), (8, .int (iI (smZ (cellZ xs L (2 * k)) 14))), (7, .int (iI od)), (6, .int (iI (cellZ xs L ((2 * k) + 1)))), (5, .int (iI (cellZ xs L (2 * k)))), (4, .int (iI k)), (0, .ref b), (1, .ref (q 0)), (2, .ref (q 29))]) hx hb dL_law_158 rfl hl (by decide) rfl (fun ls hl => ?_)
        refine W.widen (k := cells + 1) (n := slots + 6) (by omega) (by omega) ?_
        exact ih pw co la vo cpar fr cdee use runx_46 nC tduex_38 tlatx_39 twkx_40 nTx_41 eduex_42 elatx_43 ewkx_44 nEx_45 lenx_52 cntx_53 tin spx_48 pex_49 slp late srv hvx_54 av bd sh sc lt rule now stx_47 asl idlx_50 idnx_51 par div dee w H locs (by first | exact hI9 | exact lj_mono hI9 (by omega)) hP hD hS ls (lv_sub hl [4, 5, 0, 6, 7, 8] rfl)
    · skip
      refine lv_aload_n hx hb dL_law_113 rfl (lv_at hl 7 rfl) ?_
      refine lv_aload_n hx hb dL_law_114 rfl (lv_at hl 8 rfl) ?_
      refine lv_iload hx hb dL_law_115 (lv_at hl 2 rfl) ?_
      refine lv_iload hx hb dL_law_117 (lv_at hl 1 rfl) ?_
      refine zc_i (va_runS (As := [.ref (q 0), .ref (q 29), .int (iI (cellZ xs L ((2 * k) + 1))), .int (iI od)]) (rest := []) ⟨hx, hb, hml, hown, hts⟩ (kL_changes l dC dI cI cJ cZ q pw co la vo cpar fr cdee use run nC tdue tlat twk nT edue elat ewk nE len cnt tin sp pe slp late srv hv av bd sh sc lt rule now st asl idl idn par div dee w (cellZ xs L ((2 * k) + 1)) od (K) (by omega) (by first | assumption | omega | exact b2i_01 _ | exact shr_r _ _ | exact cell_r _ _ _) (by first | assumption | omega | exact b2i_01 _ | exact shr_r _ _ | exact cell_r _ _ _) (by first | assumption | omega | exact b2i_01 _ | exact shr_r _ _ | exact cell_r _ _ _) htr H.size) (va_cwS 4 hts gL_law_L_changes rfl rfl rfl (by decide +kernel) ⟨Nat.le_of_ble_eq_true rfl, Nat.le_of_ble_eq_true rfl⟩) (zyS hY hX hS hA hK hP hD [0, 1, 2, 3, 4, 5, 6, 7, 8, 9, 10, 11, 12, 13, 14, 15, 16, 17, 18, 19, 20, 21, 22, 23, 24, 25, 26, 27, 28, 29] rfl rfl) rfl rfl hl.1 rfl (lv_room (Nat.le_of_ble_eq_true rfl)) dL_law_119 ⟨(by show _ ≤ 155; omega), (by show _ ≤ 1980; omega)⟩) hP hD hS hA [0, 1, 2, 3, 4, 5, 6, 7, 8, 9, 10, 11, 12, 13, 14, 15, 16, 17, 18, 19, 20, 21, 22, 23, 24, 25, 26, 27, 28, 29] [] rfl rfl rfl (by decide) (fun v_58 u_57 H locs r_56 hP hD hS => ?_)
      obtain ⟨pwx_59, cox_60, lax_61, vox_62, runx_63, stx_64, spx_65, pex_66, idlx_67, idnx_68, lenx_69, cntx_70, rulex_71, wx_72⟩ := u_57
      obtain ⟨v_73, r_56⟩ := r_56
      refine ze_i v_73 ?_
      have r_56 : LJ (K + 200) pwx_59 cox_60 lax_61 vox_62 cdee use runx_63 nC tdue tlat twk nT edue elat ewk nE lenx_69 cntx_70 tin spx_65 pex_66 slp late srv hv av bd sh rulex_71 now stx_64 asl idlx_67 idnx_68 dee wx_72 := r_56
      have hP : va_P (dC, dI) vwCl (wPW cI cJ cZ q pwx_59 cox_60 lax_61 vox_62 cpar fr cdee use runx_63 nC tdue tlat twk nT edue elat ewk nE lenx_69 cntx_70 tin spx_65 pex_66 slp late srv hv av bd sh sc lt rulex_71 now stx_64 asl idlx_67 idnx_68 par div dee wx_72) H := hP
      have hD : va_D A (wPW cI cJ cZ q pwx_59 cox_60 lax_61 vox_62 cpar fr cdee use runx_63 nC tdue tlat twk nT edue elat ewk nE lenx_69 cntx_70 tin spx_65 pex_66 slp late srv hv av bd sh sc lt rulex_71 now stx_64 asl idlx_67 idnx_68 par div dee wx_72) := hD
      have hI9 := r_56
      refine lv_goto (tgt := 158) hx hb dL_law_122 (by decide) ?_
      refine lv_istore_n (lv' := [(3, .int (iI 1)), (8, .int (iI (smZ (cellZ xs L (2 * k)) 14))), (7, .int (iI od)), (6, .int (iI (cellZ xs L ((2 * k) + 1)))), (5, .int (iI (cellZ xs L (2 * k)))), (4, .int (iI k)), (0, .ref b), (1, .ref (q 0)), (2, .ref (q 29))]) hx hb dL_law_158 rfl hl (by decide) rfl (fun ls hl => ?_)
      refine W.widen (k := cells + 1) (n := slots + 6) (by omega) (by omega) ?_
      exact ih pwx_59 cox_60 lax_61 vox_62 cpar fr cdee use runx_63 nC tdue tlat twk nT edue elat ewk nE lenx_69 cntx_70 tin spx_65 pex_66 slp late srv hv av bd sh sc lt rulex_71 now stx_64 asl idlx_67 idnx_68 par div dee wx_72 H locs (by first | exact hI9 | exact lj_mono hI9 (by omega)) hP hD hS ls (lv_sub hl [4, 5, 0, 6, 7, 8] rfl)
  refine zi_fne (tgt := 95) hx hb (by omega) dL_law_88 (by decide) (fun c_74 => ?_) (fun c_74 => ?_)
  · skip
    refine lv_iconst (v := iI 0) hx hb dL_law_95 rfl ?_
    exact L96 0 (by omega) H locs hP hD hS ls (lv_sub hl [0, 1, 2, 3, 4, 5, 6] rfl)
  · skip
    refine lv_iconst (v := iI 1) hx hb dL_law_91 rfl ?_
    refine lv_goto (tgt := 96) hx hb dL_law_92 (by decide) ?_
    exact L96 1 (by omega) H locs hP hD hS ls (lv_sub hl [0, 1, 2, 3, 4, 5, 6] rfl)
set_option maxRecDepth 100000 in
set_option maxHeartbeats 4000000 in
theorem law_b {p : Program} {l : Launch} {e : Env} {s : State} {m : MethodId} {below : List Frame} {meth : Method} {c : Code} {Q : State → Prop} {A : Nat → Prop} {dC : Nat → ClassId} {dI : Nat → Nat → Nat} {cI cJ cZ : ClassId} {q : Nat → Nat} {b L : Nat} {xs : Nat → Int32} {k K : Int} {cells slots : Nat} {pw : Int → Int} {co : Int → Int} {la : Int → Int} {vo : Int → Int} {cpar : Int → Int} {fr : Int → Int} {cdee : Int → Int} {use : Int → Int} {run : Int → Int} {nC : Int} {tdue : Int → Int} {tlat : Int → Int} {twk : Int → Int} {nT : Int} {edue : Int → Int} {elat : Int → Int} {ewk : Int → Int} {nE : Int} {len : Int → Int} {cnt : Int} {tin : Int → Int} {sp : Int} {pe : Int} {slp : Int} {late : Int} {srv : Int} {hv : Int → Int} {av : Int} {bd : Int} {sh : Int} {sc : Int → Int} {lt : Int → Int} {rule : Int} {now : Int} {st : Int} {asl : Int} {idl : Int → Int} {idn : Int} {par : Int → Int} {div : Int → Int} {dee : Int → Int} {w : Int → Int} (hE : lEnv p l s m c A dC dI cI cJ cZ b L xs) (hk : 0 ≤ k ∧ k < 44) (hK9 : 0 ≤ K ∧ K ≤ 90000) (hc : cells + 1 ≤ 155 ∧ slots + 6 ≤ 1980) (ih : lIh p l e s m below meth c Q A dC dI cI cJ cZ q b 201 [(4, .int (iI k)), (3, .int (iI 1)), (0, .ref b), (1, .ref (q 0)), (2, .ref (q 29))] (K + 400) (cells + 1) (slots + 6)) (hI : LJ K pw co la vo cdee use run nC tdue tlat twk nT edue elat ewk nE len cnt tin sp pe slp late srv hv av bd sh rule now st asl idl idn dee w) {H : Heap} {locs : List Loc} (hP : va_P (dC, dI) vwCl (wPW cI cJ cZ q pw co la vo cpar fr cdee use run nC tdue tlat twk nT edue elat ewk nE len cnt tin sp pe slp late srv hv av bd sh sc lt rule now st asl idl idn par div dee w) H) (hD : va_D A (wPW cI cJ cZ q pw co la vo cpar fr cdee use run nC tdue tlat twk nT edue elat ewk nE len cnt tin sp pe slp late srv hv av bd sh sc lt rule now st asl idl idn par div dee w)) (hS : va_S A s.heap H locs) {ls : Array Slot} (hl : lv_has ls 9 [(5, .int (iI (cellZ xs L (2 * k)))), (4, .int (iI k)), (3, .int (iI 1)), (0, .ref b), (1, .ref (q 0)), (2, .ref (q 29))]) : W p l e room_1 s m #[Value.ref b] below meth c H locs cells slots Q (F0 m 159 ls []) := by
  obtain ⟨hx, hb, hml, hown, hts, htr, hX, hY, hK, hXs, hbl, hbA, hA, hL⟩ := id hE
  refine lv_iload_n hx hb dL_law_159 rfl (lv_at hl 2 rfl) ?_
  refine zi_feq (tgt := 243) hx hb (by decide) dL_law_160 (by decide) (fun c_1 => ?_) (fun c_1 => ?_)
  · skip
    exact absurd c_1 (by decide)
  · skip
    refine lv_aload_n hx hb dL_law_163 rfl (lv_at hl 4 rfl) ?_
    refine lv_aload_n hx hb dL_law_164 rfl (lv_at hl 5 rfl) ?_
    refine lv_iload hx hb dL_law_165 (lv_at hl 0 rfl) ?_
    refine lv_iconst (v := iI 4) hx hb dL_law_167 rfl ?_
    refine zi_shr hx hb dL_law_168 ?_
    refine lv_iconst (v := iI 0) hx hb dL_law_169 rfl ?_
    refine zc_i (va_runS (As := [.ref (q 0), .ref (q 29), .int (iI (shrZ (cellZ xs L (2 * k)) 4)), .int (iI 0)]) (rest := []) ⟨hx, hb, hml, hown, hts⟩ (kL_times l dC dI cI cJ cZ q pw co la vo cpar fr cdee use run nC tdue tlat twk nT edue elat ewk nE len cnt tin sp pe slp late srv hv av bd sh sc lt rule now st asl idl idn par div dee w (shrZ (cellZ xs L (2 * k)) 4) 0 (K) (by omega) (by first | assumption | omega | exact b2i_01 _ | exact shr_r _ _ | exact cell_r _ _ _) (by first | assumption | omega | exact b2i_01 _ | exact shr_r _ _ | exact cell_r _ _ _) (by first | assumption | omega | exact b2i_01 _ | exact shr_r _ _ | exact cell_r _ _ _) htr H.size) (va_cwS 4 hts gL_law_L_times rfl rfl rfl (by decide +kernel) ⟨Nat.le_of_ble_eq_true rfl, Nat.le_of_ble_eq_true rfl⟩) (zyS hY hX hS hA hK hP hD [0, 1, 2, 3, 4, 5, 6, 7, 8, 9, 10, 11, 12, 13, 14, 15, 16, 17, 18, 19, 20, 21, 22, 23, 24, 25, 26, 27, 28, 29] rfl rfl) rfl rfl hl.1 rfl (lv_room (Nat.le_of_ble_eq_true rfl)) dL_law_170 ⟨(by show _ ≤ 155; omega), (by show _ ≤ 1980; omega)⟩) hP hD hS hA [0, 1, 2, 3, 4, 5, 6, 7, 8, 9, 10, 11, 12, 13, 14, 15, 16, 17, 18, 19, 20, 21, 22, 23, 24, 25, 26, 27, 28, 29] [] rfl rfl rfl (by decide) (fun v_4 u_3 H locs r_2 hP hD hS => ?_)
    obtain ⟨tduex_5, tlatx_6, twkx_7, nTx_8, eduex_9, elatx_10, ewkx_11, nEx_12, runx_13, stx_14, spx_15, pex_16, idlx_17, idnx_18, lenx_19, cntx_20, hvx_21⟩ := u_3
    obtain ⟨v_22, r_2⟩ := r_2
    refine ze_i v_22 ?_
    have r_2 : LJ (K + 200) pw co la vo cdee use runx_13 nC tduex_5 tlatx_6 twkx_7 nTx_8 eduex_9 elatx_10 ewkx_11 nEx_12 lenx_19 cntx_20 tin spx_15 pex_16 slp late srv hvx_21 av bd sh rule now stx_14 asl idlx_17 idnx_18 dee w := r_2
    have hP : va_P (dC, dI) vwCl (wPW cI cJ cZ q pw co la vo cpar fr cdee use runx_13 nC tduex_5 tlatx_6 twkx_7 nTx_8 eduex_9 elatx_10 ewkx_11 nEx_12 lenx_19 cntx_20 tin spx_15 pex_16 slp late srv hvx_21 av bd sh sc lt rule now stx_14 asl idlx_17 idnx_18 par div dee w) H := hP
    have hD : va_D A (wPW cI cJ cZ q pw co la vo cpar fr cdee use runx_13 nC tduex_5 tlatx_6 twkx_7 nTx_8 eduex_9 elatx_10 ewkx_11 nEx_12 lenx_19 cntx_20 tin spx_15 pex_16 slp late srv hvx_21 av bd sh sc lt rule now stx_14 asl idlx_17 idnx_18 par div dee w) := hD
    have hI9 := r_2
    refine zi_feq (tgt := 243) hx hb (by decide) dL_law_173 (by decide) (fun c_23 => ?_) (fun c_23 => ?_)
    · skip
      exact absurd c_23 (by decide)
    · skip
      refine lv_iload hx hb dL_law_176 (lv_at hl 1 rfl) ?_
      refine lv_iconst (v := iI 2) hx hb dL_law_178 rfl ?_
      refine zi_rem hx hb (by omega) (by omega) dL_law_179 ?_
      refine zi_fgt (tgt := 201) hx hb (by omega) dL_law_180 (by decide) (fun c_24 => ?_) (fun c_24 => ?_)
      · skip
        refine W.widen (k := cells + 1) (n := slots + 6) (by omega) (by omega) ?_
        exact ih pw co la vo cpar fr cdee use runx_13 nC tduex_5 tlatx_6 twkx_7 nTx_8 eduex_9 elatx_10 ewkx_11 nEx_12 lenx_19 cntx_20 tin spx_15 pex_16 slp late srv hvx_21 av bd sh sc lt rule now stx_14 asl idlx_17 idnx_18 par div dee w H locs (by first | exact lj_mono hI7 (by omega) | exact lj_mono hI9 (by omega)) hP hD hS ls (lv_sub hl [1, 2, 3, 4, 5] rfl)
      · skip
        refine lv_aload_n hx hb dL_law_183 rfl (lv_at hl 4 rfl) ?_
        refine lv_aload_n hx hb dL_law_184 rfl (lv_at hl 5 rfl) ?_
        refine lv_iconst (v := iI 1) hx hb dL_law_185 rfl ?_
        refine lv_iload hx hb dL_law_186 (lv_at hl 0 rfl) ?_
        refine lv_iconst (v := iI 5) hx hb dL_law_188 rfl ?_
        refine zi_shr hx hb dL_law_189 ?_
        refine lv_iconst (v := iI 5) hx hb dL_law_190 rfl ?_
        refine zc_pi (va_runS (As := [.int (iI (shrZ (cellZ xs L (2 * k)) 5)), .int (iI 5)]) (rest := [.int (iI 1), .ref (q 29), .ref (q 0)]) ⟨hx, hb, hml, hown, hts⟩ (kL_some l dC dI cI cJ cZ (shrZ (cellZ xs L (2 * k)) 5) 5 (by first | assumption | omega | exact b2i_01 _ | exact shr_r _ _ | exact cell_r _ _ _) (by first | assumption | omega | exact b2i_01 _ | exact shr_r _ _ | exact cell_r _ _ _)) (va_cwS 2 hts gL_law_L_some rfl rfl rfl (by decide +kernel) ⟨Nat.le_of_ble_eq_true rfl, Nat.le_of_ble_eq_true rfl⟩) (zqS hK hP [] rfl) rfl rfl hl.1 rfl (lv_room (Nat.le_of_ble_eq_true rfl)) dL_law_191 ⟨(by show _ ≤ 155; omega), (by show _ ≤ 1980; omega)⟩) ?_
        have e_25 := sm_r (shrZ (cellZ xs L (2 * k)) 5) (show (0 : Int) < 5 by decide)
        refine zi_add hx hb dL_law_194 ?_
        refine zc_i (va_runS (As := [.ref (q 0), .ref (q 29), .int (iI (1 + (smZ (shrZ (cellZ xs L (2 * k)) 5) 5)))]) (rest := []) ⟨hx, hb, hml, hown, hts⟩ (kL_plays l dC dI cI cJ cZ q pw co la vo cpar fr cdee use runx_13 nC tduex_5 tlatx_6 twkx_7 nTx_8 eduex_9 elatx_10 ewkx_11 nEx_12 lenx_19 cntx_20 tin spx_15 pex_16 slp late srv hvx_21 av bd sh sc lt rule now stx_14 asl idlx_17 idnx_18 par div dee w (1 + (smZ (shrZ (cellZ xs L (2 * k)) 5) 5)) (K + 200) (by omega) (by first | assumption | omega | exact b2i_01 _ | exact shr_r _ _ | exact cell_r _ _ _) (by first | assumption | omega | exact b2i_01 _ | exact shr_r _ _ | exact cell_r _ _ _) H.size) (va_cwS 3 hts gL_law_L_plays rfl rfl rfl (by decide +kernel) ⟨Nat.le_of_ble_eq_true rfl, Nat.le_of_ble_eq_true rfl⟩) (zpS hK hP hD [0, 1, 2, 3, 4, 5, 6, 7, 8, 9, 10, 11, 12, 13, 14, 15, 16, 17, 18, 19, 20, 21, 22, 23, 24, 25, 26, 27, 28, 29] rfl rfl) rfl rfl hl.1 rfl (lv_room (Nat.le_of_ble_eq_true rfl)) dL_law_195 ⟨(by show _ ≤ 155; omega), (by show _ ≤ 1980; omega)⟩) hP hD hS hA [0, 1, 2, 3, 4, 5, 6, 7, 8, 9, 10, 11, 12, 13, 14, 15, 16, 17, 18, 19, 20, 21, 22, 23, 24, 25, 26, 27, 28, 29] [] rfl rfl rfl (by decide) (fun v_28 u_27 H locs r_26 hP hD hS => ?_)
        obtain ⟨stx_29, aslx_30, nowx_31, nTx_32, tduex_33, tlatx_34, twkx_35, nEx_36, eduex_37, ewkx_38, spx_39, pex_40, tinx_41, slpx_42, latex_43, srvx_44, avx_45, bdx_46, shx_47, idlx_48, idnx_49, lenx_50, cntx_51, elatx_52, runx_53⟩ := u_27
        obtain ⟨v_54, r_26⟩ := r_26
        refine ze_i v_54 ?_
        have r_26 : LJ ((K + 200) + (1 + (smZ (shrZ (cellZ xs L (2 * k)) 5) 5))) pw co la vo cdee use runx_53 nC tduex_33 tlatx_34 twkx_35 nTx_32 eduex_37 elatx_52 ewkx_38 nEx_36 lenx_50 cntx_51 tinx_41 spx_39 pex_40 slpx_42 latex_43 srvx_44 hvx_21 avx_45 bdx_46 shx_47 rule nowx_31 stx_29 aslx_30 idlx_48 idnx_49 dee w := r_26
        have hP : va_P (dC, dI) vwCl (wPW cI cJ cZ q pw co la vo cpar fr cdee use runx_53 nC tduex_33 tlatx_34 twkx_35 nTx_32 eduex_37 elatx_52 ewkx_38 nEx_36 lenx_50 cntx_51 tinx_41 spx_39 pex_40 slpx_42 latex_43 srvx_44 hvx_21 avx_45 bdx_46 shx_47 sc lt rule nowx_31 stx_29 aslx_30 idlx_48 idnx_49 par div dee w) H := hP
        have hD : va_D A (wPW cI cJ cZ q pw co la vo cpar fr cdee use runx_53 nC tduex_33 tlatx_34 twkx_35 nTx_32 eduex_37 elatx_52 ewkx_38 nEx_36 lenx_50 cntx_51 tinx_41 spx_39 pex_40 slpx_42 latex_43 srvx_44 hvx_21 avx_45 bdx_46 shx_47 sc lt rule nowx_31 stx_29 aslx_30 idlx_48 idnx_49 par div dee w) := hD
        have hI7 := r_26
        refine zi_feq (tgt := 243) hx hb (by decide) dL_law_198 (by decide) (fun c_55 => ?_) (fun c_55 => ?_)
        · skip
          exact absurd c_55 (by decide)
        · skip
          refine W.widen (k := cells + 1) (n := slots + 6) (by omega) (by omega) ?_
          exact ih pw co la vo cpar fr cdee use runx_53 nC tduex_33 tlatx_34 twkx_35 nTx_32 eduex_37 elatx_52 ewkx_38 nEx_36 lenx_50 cntx_51 tinx_41 spx_39 pex_40 slpx_42 latex_43 srvx_44 hvx_21 avx_45 bdx_46 shx_47 sc lt rule nowx_31 stx_29 aslx_30 idlx_48 idnx_49 par div dee w H locs (by first | exact lj_mono hI7 (by omega) | exact lj_mono hI9 (by omega)) hP hD hS ls (lv_sub hl [1, 2, 3, 4, 5] rfl)
set_option maxRecDepth 100000 in
set_option maxHeartbeats 4000000 in
theorem law_c {p : Program} {l : Launch} {e : Env} {s : State} {m : MethodId} {below : List Frame} {meth : Method} {c : Code} {Q : State → Prop} {A : Nat → Prop} {dC : Nat → ClassId} {dI : Nat → Nat → Nat} {cI cJ cZ : ClassId} {q : Nat → Nat} {b L : Nat} {xs : Nat → Int32} {k K : Int} {cells slots : Nat} {pw : Int → Int} {co : Int → Int} {la : Int → Int} {vo : Int → Int} {cpar : Int → Int} {fr : Int → Int} {cdee : Int → Int} {use : Int → Int} {run : Int → Int} {nC : Int} {tdue : Int → Int} {tlat : Int → Int} {twk : Int → Int} {nT : Int} {edue : Int → Int} {elat : Int → Int} {ewk : Int → Int} {nE : Int} {len : Int → Int} {cnt : Int} {tin : Int → Int} {sp : Int} {pe : Int} {slp : Int} {late : Int} {srv : Int} {hv : Int → Int} {av : Int} {bd : Int} {sh : Int} {sc : Int → Int} {lt : Int → Int} {rule : Int} {now : Int} {st : Int} {asl : Int} {idl : Int → Int} {idn : Int} {par : Int → Int} {div : Int → Int} {dee : Int → Int} {w : Int → Int} (hE : lEnv p l s m c A dC dI cI cJ cZ b L xs) (hk : 0 ≤ k ∧ k < 44) (hK9 : 0 ≤ K ∧ K ≤ 90000) (hc : k % 9 = 0 → cells + 2 ≤ 155 ∧ slots + 12 ≤ 1980) (ih0 : 0 < k % 9 → lIh p l e s m below meth c Q A dC dI cI cJ cZ q b 45 [(4, .int (iI (k + 1))), (3, .int (iI 1)), (0, .ref b), (1, .ref (q 0)), (2, .ref (q 29))] (K + 400) (cells + 0) (slots + 0)) (ih2 : k % 9 = 0 → lIh p l e s m below meth c Q A dC dI cI cJ cZ q b 45 [(4, .int (iI (k + 1))), (3, .int (iI 1)), (0, .ref b), (1, .ref (q 0)), (2, .ref (q 29))] (K + 400) (cells + 2) (slots + 12))  (hI : LJ K pw co la vo cdee use run nC tdue tlat twk nT edue elat ewk nE len cnt tin sp pe slp late srv hv av bd sh rule now st asl idl idn dee w) {H : Heap} {locs : List Loc} (hP : va_P (dC, dI) vwCl (wPW cI cJ cZ q pw co la vo cpar fr cdee use run nC tdue tlat twk nT edue elat ewk nE len cnt tin sp pe slp late srv hv av bd sh sc lt rule now st asl idl idn par div dee w) H) (hD : va_D A (wPW cI cJ cZ q pw co la vo cpar fr cdee use run nC tdue tlat twk nT edue elat ewk nE len cnt tin sp pe slp late srv hv av bd sh sc lt rule now st asl idl idn par div dee w)) (hS : va_S A s.heap H locs) {ls : Array Slot} (hl : lv_has ls 9 [(4, .int (iI k)), (3, .int (iI 1)), (0, .ref b), (1, .ref (q 0)), (2, .ref (q 29))]) : W p l e room_1 s m #[Value.ref b] below meth c H locs cells slots Q (F0 m 201 ls []) := by
  obtain ⟨hx, hb, hml, hown, hts, htr, hX, hY, hK, hXs, hbl, hbA, hA, hL⟩ := id hE
  obtain ⟨⟨hpw, hco, hla, hc0, hl0⟩, ⟨hnC1, hu0, huse, hrun, hcd, hvo, hd0, hde⟩, ⟨hrl, hhv, hid, hel⟩, hti, hsb, hw0, hw4, hw8⟩ := id hI
  obtain ⟨i1, i2, i3, i4, i5, i6, i7, i8, i9, i10, i11, i12, i13, i14, i15, i16, i17⟩ := id hti
  have hnC : 1 ≤ nC ∧ nC ≤ 8 := by omega
  have hcp : ∀ c : Int, 1 ≤ c → c < nC → 0 ≤ cpar c ∧ cpar c < c := fun c h1 h2 => absurd h2 (by omega)
  have hpp : ∀ c : Int, 1 ≤ c → c < nC → par c = cpar c := fun c h1 h2 => absurd h2 (by omega)
  have hdd : ∀ c : Int, 1 ≤ c → c < nC → dee c = cdee c := fun c h1 h2 => absurd h2 (by omega)
  have hdz := dzM_r (par := par) (use := use) hvo hde hnC
  have htk : ∃ K : Int, K ≤ 190000 ∧ tiB K st asl now nT tdue tlat twk nE edue ewk sp pe tin slp late srv av bd sh idl idn := ⟨K, by omega, hti⟩
  have hc0 := hc
  refine lv_iload hx hb dL_law_201 (lv_at hl 0 rfl) ?_
  refine lv_bipush (v := iI 9) hx hb dL_law_203 (by decide) ?_
  refine zi_rem hx hb (by omega) (by omega) dL_law_205 ?_
  refine zi_fgt (tgt := 239) hx hb (by omega) dL_law_206 (by decide) (fun c_1 => ?_) (fun c_1 => ?_)
  · skip
    refine lv_iconst (v := iI 1) hx hb dL_law_239 rfl ?_
    refine lv_goto (tgt := 244) hx hb dL_law_240 (by decide) ?_
    refine lv_istore_n (lv' := [(3, .int (iI 1)), (4, .int (iI k)), (0, .ref b), (1, .ref (q 0)), (2, .ref (q 29))]) hx hb dL_law_244 rfl hl (by decide) rfl (fun ls hl => ?_)
    refine lv_iinc (v := iI (k + 1)) (lv' := [(4, .int (iI (k + 1))), (3, .int (iI 1)), (0, .ref b), (1, .ref (q 0)), (2, .ref (q 29))]) hx hb dL_law_245 hl (k := 1) rfl (iI_add _ _) (by decide) rfl (fun ls hl => ?_)
    refine lv_goto (tgt := 45) hx hb dL_law_248 (by decide) ?_
    refine W.widen (k := cells + 0) (n := slots + 0) (by omega) (by omega) ?_
    exact ih0 (by omega) pw co la vo cpar fr cdee use run nC tdue tlat twk nT edue elat ewk nE len cnt tin sp pe slp late srv hv av bd sh sc lt rule now st asl idl idn par div dee w H locs (by exact lj_mono hI (by omega)) hP hD hS ls (lv_sub hl [0, 1, 2, 3, 4] rfl)
  · skip
    refine lv_aload_n hx hb dL_law_209 rfl (lv_at hl 3 rfl) ?_
    refine lv_bipush (v := iI 8) hx hb dL_law_210 (by decide) ?_
    refine lv_iconst (v := iI 0) hx hb dL_law_212 rfl ?_
    refine lv_iconst (v := iI 0) hx hb dL_law_213 rfl ?_
    refine lv_iconst (v := iI 0) hx hb dL_law_214 rfl ?_
    refine zc_i (vx_runSW (As := [.ref (q 0), .int (iI 8), .int (iI 0), .int (iI 0), .int (iI 0)]) (rest := []) ⟨hx, hb, hml, hown, hts⟩ (kL_sets_bad8 l dC dI cI cJ cZ q pw co la vo cpar fr cdee use run nC tdue tlat twk nT edue elat ewk nE len cnt tin sp pe slp late srv hv av bd sh sc lt rule now st asl idl idn par div dee 0 (by first | assumption | omega | exact b2i_01 _ | exact shr_r _ _ | exact cell_r _ _ _) (by first | assumption | omega | exact b2i_01 _ | exact shr_r _ _ | exact cell_r _ _ _) (by first | assumption | omega | exact b2i_01 _ | exact shr_r _ _ | exact cell_r _ _ _) (by first | assumption | omega | exact b2i_01 _ | exact shr_r _ _ | exact cell_r _ _ _) (by first | assumption | omega | exact b2i_01 _ | exact shr_r _ _ | exact cell_r _ _ _) (by first | assumption | omega | exact b2i_01 _ | exact shr_r _ _ | exact cell_r _ _ _) (by first | assumption | omega | exact b2i_01 _ | exact shr_r _ _ | exact cell_r _ _ _) (by first | assumption | omega | exact b2i_01 _ | exact shr_r _ _ | exact cell_r _ _ _) (by first | assumption | omega | exact b2i_01 _ | exact shr_r _ _ | exact cell_r _ _ _) (by first | assumption | omega | exact b2i_01 _ | exact shr_r _ _ | exact cell_r _ _ _) (by first | assumption | omega | exact b2i_01 _ | exact shr_r _ _ | exact cell_r _ _ _) (by first | assumption | omega | exact b2i_01 _ | exact shr_r _ _ | exact cell_r _ _ _) (by first | assumption | omega | exact b2i_01 _ | exact shr_r _ _ | exact cell_r _ _ _) (by first | assumption | omega | exact b2i_01 _ | exact shr_r _ _ | exact cell_r _ _ _) (by first | assumption | omega | exact b2i_01 _ | exact shr_r _ _ | exact cell_r _ _ _) (by first | assumption | omega | exact b2i_01 _ | exact shr_r _ _ | exact cell_r _ _ _) (by first | assumption | omega | exact b2i_01 _ | exact shr_r _ _ | exact cell_r _ _ _) (by first | assumption | omega | exact b2i_01 _ | exact shr_r _ _ | exact cell_r _ _ _) (by first | assumption | omega | exact b2i_01 _ | exact shr_r _ _ | exact cell_r _ _ _) (by first | assumption | omega | exact b2i_01 _ | exact shr_r _ _ | exact cell_r _ _ _) htr H.size) (vx_cwSW 5 hts gL_law_L_sets rfl rfl rfl (by decide +kernel) ⟨Nat.le_of_ble_eq_true rfl, Nat.le_of_ble_eq_true rfl⟩) (zyS hY hX hS hA hK hP hD [0, 1, 2, 3, 4, 5, 6, 7, 8, 9, 10, 11, 12, 13, 14, 15, 16, 17, 18, 19, 20, 21, 22, 23, 24, 25, 26, 27, 28] rfl rfl) rfl rfl hl.1 rfl (lv_room (Nat.le_of_ble_eq_true rfl)) dL_law_215 ⟨(by show _ ≤ 155; omega), (by show _ ≤ 1980; omega)⟩) hP hD hS hA [0, 1, 2, 3, 4, 5, 6, 7, 8, 9, 10, 11, 12, 13, 14, 15, 16, 17, 18, 19, 20, 21, 22, 23, 24, 25, 26, 27, 28] [29] rfl rfl rfl (by decide) (fun v_4 u_3 H locs r_2 hP hD hS => ?_)
    refine ze_i r_2 ?_
    have hP : va_P (dC, dI) vwCl (wPW cI cJ cZ q pw co la vo cpar fr cdee use run nC tdue tlat twk nT edue elat ewk nE len cnt tin sp pe slp late srv hv av bd sh sc lt rule now st asl idl idn par div dee w) H := hP.sub [1, 2, 3, 4, 5, 6, 7, 8, 9, 10, 11, 12, 13, 14, 15, 16, 17, 18, 19, 20, 21, 22, 23, 24, 25, 26, 27, 28, 29, 0] (z_fm rfl)
    have hD : va_D A (wPW cI cJ cZ q pw co la vo cpar fr cdee use run nC tdue tlat twk nT edue elat ewk nE len cnt tin sp pe slp late srv hv av bd sh sc lt rule now st asl idl idn par div dee w) := hD.sub [1, 2, 3, 4, 5, 6, 7, 8, 9, 10, 11, 12, 13, 14, 15, 16, 17, 18, 19, 20, 21, 22, 23, 24, 25, 26, 27, 28, 29, 0] (by decide) rfl
    refine lv_bipush (v := iI (-82)) hx hb dL_law_218 (by decide) ?_
    refine zi_cne (tgt := 243) hx hb (by decide) (by decide) dL_law_220 (by decide) (fun c_5 => ?_) (fun c_5 => ?_)
    · skip
      exact absurd c_5 (by decide)
    · skip
      refine lv_aload_n hx hb dL_law_223 rfl (lv_at hl 3 rfl) ?_
      refine lv_bipush (v := iI 8) hx hb dL_law_224 (by decide) ?_
      refine lv_sipush (v := iI 201) hx hb dL_law_226 (by decide) ?_
      refine lv_iconst (v := iI 0) hx hb dL_law_229 rfl ?_
      refine lv_iconst (v := iI 0) hx hb dL_law_230 rfl ?_
      refine zc_i (vx_runSW (As := [.ref (q 0), .int (iI 8), .int (iI 201), .int (iI 0), .int (iI 0)]) (rest := []) ⟨hx, hb, hml, hown, hts⟩ (kL_sets_bad8 l dC dI cI cJ cZ q pw co la vo cpar fr cdee use run nC tdue tlat twk nT edue elat ewk nE len cnt tin sp pe slp late srv hv av bd sh sc lt rule now st asl idl idn par div dee 201 (by first | assumption | omega | exact b2i_01 _ | exact shr_r _ _ | exact cell_r _ _ _) (by first | assumption | omega | exact b2i_01 _ | exact shr_r _ _ | exact cell_r _ _ _) (by first | assumption | omega | exact b2i_01 _ | exact shr_r _ _ | exact cell_r _ _ _) (by first | assumption | omega | exact b2i_01 _ | exact shr_r _ _ | exact cell_r _ _ _) (by first | assumption | omega | exact b2i_01 _ | exact shr_r _ _ | exact cell_r _ _ _) (by first | assumption | omega | exact b2i_01 _ | exact shr_r _ _ | exact cell_r _ _ _) (by first | assumption | omega | exact b2i_01 _ | exact shr_r _ _ | exact cell_r _ _ _) (by first | assumption | omega | exact b2i_01 _ | exact shr_r _ _ | exact cell_r _ _ _) (by first | assumption | omega | exact b2i_01 _ | exact shr_r _ _ | exact cell_r _ _ _) (by first | assumption | omega | exact b2i_01 _ | exact shr_r _ _ | exact cell_r _ _ _) (by first | assumption | omega | exact b2i_01 _ | exact shr_r _ _ | exact cell_r _ _ _) (by first | assumption | omega | exact b2i_01 _ | exact shr_r _ _ | exact cell_r _ _ _) (by first | assumption | omega | exact b2i_01 _ | exact shr_r _ _ | exact cell_r _ _ _) (by first | assumption | omega | exact b2i_01 _ | exact shr_r _ _ | exact cell_r _ _ _) (by first | assumption | omega | exact b2i_01 _ | exact shr_r _ _ | exact cell_r _ _ _) (by first | assumption | omega | exact b2i_01 _ | exact shr_r _ _ | exact cell_r _ _ _) (by first | assumption | omega | exact b2i_01 _ | exact shr_r _ _ | exact cell_r _ _ _) (by first | assumption | omega | exact b2i_01 _ | exact shr_r _ _ | exact cell_r _ _ _) (by first | assumption | omega | exact b2i_01 _ | exact shr_r _ _ | exact cell_r _ _ _) (by first | assumption | omega | exact b2i_01 _ | exact shr_r _ _ | exact cell_r _ _ _) htr H.size) (vx_cwSW 5 hts gL_law_L_sets rfl rfl rfl (by decide +kernel) ⟨Nat.le_of_ble_eq_true rfl, Nat.le_of_ble_eq_true rfl⟩) (zyS hY hX hS hA hK hP hD [0, 1, 2, 3, 4, 5, 6, 7, 8, 9, 10, 11, 12, 13, 14, 15, 16, 17, 18, 19, 20, 21, 22, 23, 24, 25, 26, 27, 28] rfl rfl) rfl rfl hl.1 rfl (lv_room (Nat.le_of_ble_eq_true rfl)) dL_law_231 ⟨(by show _ ≤ 155; omega), (by show _ ≤ 1980; omega)⟩) hP hD hS hA [0, 1, 2, 3, 4, 5, 6, 7, 8, 9, 10, 11, 12, 13, 14, 15, 16, 17, 18, 19, 20, 21, 22, 23, 24, 25, 26, 27, 28] [29] rfl rfl rfl (by decide) (fun v_8 u_7 H locs r_6 hP hD hS => ?_)
      refine ze_i r_6 ?_
      have hP : va_P (dC, dI) vwCl (wPW cI cJ cZ q pw co la vo cpar fr cdee use run nC tdue tlat twk nT edue elat ewk nE len cnt tin sp pe slp late srv hv av bd sh sc lt rule now st asl idl idn par div dee w) H := hP.sub [1, 2, 3, 4, 5, 6, 7, 8, 9, 10, 11, 12, 13, 14, 15, 16, 17, 18, 19, 20, 21, 22, 23, 24, 25, 26, 27, 28, 29, 0] (z_fm rfl)
      have hD : va_D A (wPW cI cJ cZ q pw co la vo cpar fr cdee use run nC tdue tlat twk nT edue elat ewk nE len cnt tin sp pe slp late srv hv av bd sh sc lt rule now st asl idl idn par div dee w) := hD.sub [1, 2, 3, 4, 5, 6, 7, 8, 9, 10, 11, 12, 13, 14, 15, 16, 17, 18, 19, 20, 21, 22, 23, 24, 25, 26, 27, 28, 29, 0] (by decide) rfl
      refine lv_bipush (v := iI (-82)) hx hb dL_law_234 (by decide) ?_
      refine zi_cne (tgt := 243) hx hb (by decide) (by decide) dL_law_236 (by decide) (fun c_9 => ?_) (fun c_9 => ?_)
      · skip
        exact absurd c_9 (by decide)
      · skip
        refine lv_iconst (v := iI 1) hx hb dL_law_239 rfl ?_
        refine lv_goto (tgt := 244) hx hb dL_law_240 (by decide) ?_
        refine lv_istore_n (lv' := [(3, .int (iI 1)), (4, .int (iI k)), (0, .ref b), (1, .ref (q 0)), (2, .ref (q 29))]) hx hb dL_law_244 rfl hl (by decide) rfl (fun ls hl => ?_)
        refine lv_iinc (v := iI (k + 1)) (lv' := [(4, .int (iI (k + 1))), (3, .int (iI 1)), (0, .ref b), (1, .ref (q 0)), (2, .ref (q 29))]) hx hb dL_law_245 hl (k := 1) rfl (iI_add _ _) (by decide) rfl (fun ls hl => ?_)
        refine lv_goto (tgt := 45) hx hb dL_law_248 (by decide) ?_
        refine W.widen (k := cells + 2) (n := slots + 12) (by omega) (by omega) ?_
        exact ih2 (by omega) pw co la vo cpar fr cdee use run nC tdue tlat twk nT edue elat ewk nE len cnt tin sp pe slp late srv hv av bd sh sc lt rule now st asl idl idn par div dee w H locs (by exact lj_mono hI (by omega)) hP hD hS ls (lv_sub hl [0, 1, 2, 3, 4] rfl)
set_option maxRecDepth 100000 in
set_option maxHeartbeats 4000000 in
theorem law_d {p : Program} {l : Launch} {e : Env} {s : State} {m : MethodId} {below : List Frame} {meth : Method} {c : Code} {Q : State → Prop} {A : Nat → Prop} {dC : Nat → ClassId} {dI : Nat → Nat → Nat} {cI cJ cZ : ClassId} {q : Nat → Nat} {b L : Nat} {xs : Nat → Int32} {k K : Int} {cells slots : Nat} {pw : Int → Int} {co : Int → Int} {la : Int → Int} {vo : Int → Int} {cpar : Int → Int} {fr : Int → Int} {cdee : Int → Int} {use : Int → Int} {run : Int → Int} {nC : Int} {tdue : Int → Int} {tlat : Int → Int} {twk : Int → Int} {nT : Int} {edue : Int → Int} {elat : Int → Int} {ewk : Int → Int} {nE : Int} {len : Int → Int} {cnt : Int} {tin : Int → Int} {sp : Int} {pe : Int} {slp : Int} {late : Int} {srv : Int} {hv : Int → Int} {av : Int} {bd : Int} {sh : Int} {sc : Int → Int} {lt : Int → Int} {rule : Int} {now : Int} {st : Int} {asl : Int} {idl : Int → Int} {idn : Int} {par : Int → Int} {div : Int → Int} {dee : Int → Int} {w : Int → Int} (hE : lEnv p l s m c A dC dI cI cJ cZ b L xs) (hK9 : 0 ≤ K ∧ K ≤ 90000) (hc : cells ≤ 155 ∧ slots ≤ 1980) (hQ : Q = lw_Z below #[Value.ref b] s) (hr : meth.sig.returnType = ret) (hlocks : meth.locks = false) (hAs : ∀ q9 : Nat, A q9 → s.heap.size ≤ q9)  (hI : LJ K pw co la vo cdee use run nC tdue tlat twk nT edue elat ewk nE len cnt tin sp pe slp late srv hv av bd sh rule now st asl idl idn dee w) {H : Heap} {locs : List Loc} (hP : va_P (dC, dI) vwCl (wPW cI cJ cZ q pw co la vo cpar fr cdee use run nC tdue tlat twk nT edue elat ewk nE len cnt tin sp pe slp late srv hv av bd sh sc lt rule now st asl idl idn par div dee w) H) (hD : va_D A (wPW cI cJ cZ q pw co la vo cpar fr cdee use run nC tdue tlat twk nT edue elat ewk nE len cnt tin sp pe slp late srv hv av bd sh sc lt rule now st asl idl idn par div dee w)) (hS : va_S A s.heap H locs) {ls : Array Slot} (hl : lv_has ls 9 [(4, .int (iI k)), (3, .int (iI 1)), (0, .ref b), (1, .ref (q 0)), (2, .ref (q 29))]) : W p l e room_1 s m #[Value.ref b] below meth c H locs cells slots Q (F0 m 251 ls []) := by
  obtain ⟨hx, hb, hml, hown, hts, htr, hX, hY, hK, hXs, hbl, hbA, hA, hL⟩ := id hE
  refine lv_iload_n hx hb dL_law_251 rfl (lv_at hl 1 rfl) ?_
  refine zi_feq (tgt := 269) hx hb (by decide) dL_law_252 (by decide) (fun c_1 => ?_) (fun c_1 => ?_)
  · skip
    exact absurd c_1 (by decide)
  · skip
    refine lv_aload_n hx hb dL_law_255 rfl (lv_at hl 3 rfl) ?_
    refine lv_aload_n hx hb dL_law_256 rfl (lv_at hl 4 rfl) ?_
    refine lv_bipush (v := iI 20) hx hb dL_law_257 (by decide) ?_
    refine zc_i (va_runS (As := [.ref (q 0), .ref (q 29), .int (iI 20)]) (rest := []) ⟨hx, hb, hml, hown, hts⟩ (kL_plays l dC dI cI cJ cZ q pw co la vo cpar fr cdee use run nC tdue tlat twk nT edue elat ewk nE len cnt tin sp pe slp late srv hv av bd sh sc lt rule now st asl idl idn par div dee w 20 (K) (by omega) (by first | assumption | omega | exact b2i_01 _ | exact shr_r _ _ | exact cell_r _ _ _) (by first | assumption | omega | exact b2i_01 _ | exact shr_r _ _ | exact cell_r _ _ _) H.size) (va_cwS 3 hts gL_law_L_plays rfl rfl rfl (by decide +kernel) ⟨Nat.le_of_ble_eq_true rfl, Nat.le_of_ble_eq_true rfl⟩) (zpS hK hP hD [0, 1, 2, 3, 4, 5, 6, 7, 8, 9, 10, 11, 12, 13, 14, 15, 16, 17, 18, 19, 20, 21, 22, 23, 24, 25, 26, 27, 28, 29] rfl rfl) rfl rfl hl.1 rfl (lv_room (Nat.le_of_ble_eq_true rfl)) dL_law_259 ⟨(by show _ ≤ 155; omega), (by show _ ≤ 1980; omega)⟩) hP hD hS hA [0, 1, 2, 3, 4, 5, 6, 7, 8, 9, 10, 11, 12, 13, 14, 15, 16, 17, 18, 19, 20, 21, 22, 23, 24, 25, 26, 27, 28, 29] [] rfl rfl rfl (by decide) (fun v_4 u_3 H locs r_2 hP hD hS => ?_)
    obtain ⟨stx_5, aslx_6, nowx_7, nTx_8, tduex_9, tlatx_10, twkx_11, nEx_12, eduex_13, ewkx_14, spx_15, pex_16, tinx_17, slpx_18, latex_19, srvx_20, avx_21, bdx_22, shx_23, idlx_24, idnx_25, lenx_26, cntx_27, elatx_28, runx_29⟩ := u_3
    obtain ⟨v_30, r_2⟩ := r_2
    refine ze_i v_30 ?_
    have r_2 : LJ (K + 20) pw co la vo cdee use runx_29 nC tduex_9 tlatx_10 twkx_11 nTx_8 eduex_13 elatx_28 ewkx_14 nEx_12 lenx_26 cntx_27 tinx_17 spx_15 pex_16 slpx_18 latex_19 srvx_20 hv avx_21 bdx_22 shx_23 rule nowx_7 stx_5 aslx_6 idlx_24 idnx_25 dee w := r_2
    have hP : va_P (dC, dI) vwCl (wPW cI cJ cZ q pw co la vo cpar fr cdee use runx_29 nC tduex_9 tlatx_10 twkx_11 nTx_8 eduex_13 elatx_28 ewkx_14 nEx_12 lenx_26 cntx_27 tinx_17 spx_15 pex_16 slpx_18 latex_19 srvx_20 hv avx_21 bdx_22 shx_23 sc lt rule nowx_7 stx_5 aslx_6 idlx_24 idnx_25 par div dee w) H := hP
    have hD : va_D A (wPW cI cJ cZ q pw co la vo cpar fr cdee use runx_29 nC tduex_9 tlatx_10 twkx_11 nTx_8 eduex_13 elatx_28 ewkx_14 nEx_12 lenx_26 cntx_27 tinx_17 spx_15 pex_16 slpx_18 latex_19 srvx_20 hv avx_21 bdx_22 shx_23 sc lt rule nowx_7 stx_5 aslx_6 idlx_24 idnx_25 par div dee w) := hD
    have hI9 := r_2
    refine zi_feq (tgt := 269) hx hb (by decide) dL_law_262 (by decide) (fun c_31 => ?_) (fun c_31 => ?_)
    · skip
      exact absurd c_31 (by decide)
    · skip
      refine lv_iconst (v := 1) hx hb dL_law_265 (by decide) ?_
      refine lv_goto (tgt := 270) hx hb dL_law_266 (by decide) ?_
      subst hQ
      refine va_forget (fun q hq => hAs _ (hS.2.2 q hq)) ?_
      refine W.widen (k := 155) (n := 1980) (by omega) (by omega) ?_
      exact lw_ret hx hb hr hlocks dL_law_270
