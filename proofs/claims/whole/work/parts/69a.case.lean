set_option maxRecDepth 100000 in
set_option maxHeartbeats 4000000 in
theorem lc_setState {p : Program} {l : Launch} {e : Env} {s : State} {m : MethodId} {below : List Frame} {meth : Method} {c : Code} {Q : State → Prop} {dC : Nat → ClassId} {dI : Nat → Nat → Nat} {cI cJ cZ : ClassId} {q : Nat → Nat} {b L : Nat} {xs : Nat → Int32} {i9 K : Int} {cells slots : Nat} {pw : Int → Int} {co : Int → Int} {la : Int → Int} {vo : Int → Int} {cpar : Int → Int} {fr : Int → Int} {cdee : Int → Int} {use : Int → Int} {run : Int → Int} {nC : Int} {tdue : Int → Int} {tlat : Int → Int} {twk : Int → Int} {nT : Int} {edue : Int → Int} {elat : Int → Int} {ewk : Int → Int} {nE : Int} {len : Int → Int} {cnt : Int} {tin : Int → Int} {sp : Int} {pe : Int} {slp : Int} {late : Int} {srv : Int} {hv : Int → Int} {av : Int} {bd : Int} {sh : Int} {sc : Int → Int} {lt : Int → Int} {rule : Int} {now : Int} {st : Int} {asl : Int} {idl : Int → Int} {idn : Int} {par : Int → Int} {div : Int → Int} {dee : Int → Int} {mrun : Int → Int} {mL : Int → Int} {mB : Int → Int} {thr : Int} {o : Int → Int} (hE : lEnv p l s m c dC dI cI cJ cZ b L xs) (hi : 0 ≤ i9 ∧ i9 + 5 ≤ L) (hc : cells + 1 ≤ 1099 ∧ slots + 6 ≤ 10341) (hK9 : 0 ≤ K ∧ K ≤ 110000) (ih : lIh p l e s m below meth c Q dC dI cI cJ cZ q b i9 (K + 200) (cells + 1) (slots + 6)) (hI : LI K pw co la vo cpar fr cdee use run nC tdue tlat twk nT edue elat ewk nE len cnt tin sp pe slp late srv hv av bd sh sc lt rule now st asl idl idn par div dee mrun mB) {H : Heap} {locs : List Loc} (hP : va_P (dC, dI) vwCl (wLW cI cJ cZ q pw co la vo cpar fr cdee use run nC tdue tlat twk nT edue elat ewk nE len cnt tin sp pe slp late srv hv av bd sh sc lt rule now st asl idl idn par div dee pw co la vo nC par div dee use mrun nT tdue tlat twk nE edue ewk rule now st asl idn idl sp pe tin slp late srv hv av bd sh mL mB thr o) H) (hD : va_D (fun q9 : Nat => s.heap.size ≤ q9) (wLW cI cJ cZ q pw co la vo cpar fr cdee use run nC tdue tlat twk nT edue elat ewk nE len cnt tin sp pe slp late srv hv av bd sh sc lt rule now st asl idl idn par div dee pw co la vo nC par div dee use mrun nT tdue tlat twk nE edue ewk rule now st asl idn idl sp pe tin slp late srv hv av bd sh mL mB thr o)) (hS : va_S (fun q9 : Nat => s.heap.size ≤ q9) s.heap H locs) {ls : Array Slot} (hl : lv_has ls 8 [(4, .int (iI i9)), (0, .ref b), (1, .ref (q 0)), (2, .ref (q 29)), (3, .ref (q 49))]) : W p l e room_1 s m #[Value.ref b] below meth c H locs cells slots Q (F0 m 176 ls []) := by
  obtain ⟨hx, hb, hml, hown, hts, htr, hX, hY, hK, hXs, hbl, hL⟩ := hE
  have hA : ∀ q9 : Nat, s.heap.size ≤ q9 → (fun q9 : Nat => s.heap.size ≤ q9) q9 := fun _ h => h
  have hbA : ¬ (fun q9 : Nat => s.heap.size ≤ q9) b := Nat.not_le.mpr hbl
  have hf1 : cells + 1 ≤ room_1.cells := hc.1
  have hf6 : slots + 6 ≤ room_1.slots := hc.2
  obtain ⟨x1, hv1, hx1⟩ := iI_of (xs (iI (i9 + 1)).toNatClampNeg)
  obtain ⟨x2, hv2, hx2⟩ := iI_of (xs (iI (i9 + 2)).toNatClampNeg)
  obtain ⟨x3, hv3, hx3⟩ := iI_of (xs (iI (i9 + 3)).toNatClampNeg)
  obtain ⟨x4, hv4, hx4⟩ := iI_of (xs (iI (i9 + 4)).toNatClampNeg)
  obtain ⟨⟨hpw, hco, hla, hc0, hl0⟩, ⟨hnC, hcp, huse, hrun, hcd, hvo, hpp, hdd, hd0, hde, huz, hfr, hfq, hdv, hmrun⟩, ⟨hrl, hhv, hid, hel⟩, hti, ⟨hsc, hlt, hmB⟩⟩ := id hI
  obtain ⟨hst, hasl, hnowK, hnT, htd, htl, htw, hnE, hed, hew, hpeK, hav, hbd, hk14, hev, hidK, hidl⟩ := id hti
  have hnow : 0 ≤ now ∧ now ≤ 200000 := by omega
  have hidn : 0 ≤ idn ∧ idn ≤ 2000000 := by omega
  have hidn1 : 0 ≤ idn ∧ idn ≤ 1000000 := by omega
  have hpe : 0 ≤ pe ∧ pe ≤ 1000000 := by omega
  have hpar : ∀ c : Int, 1 ≤ c → c < nC → 0 ≤ par c ∧ par c < c := fun c h1 h2 => by rw [hpp c h1 h2]; exact hcp c h1 h2
  have htdl : ∀ k : Int, 0 ≤ k → k < nT → tdue k ≤ tlat k := fun k h1 h2 => (hk14 k h1 h2).2
  have htnl : ∀ k : Int, 0 ≤ k → k < nT → now ≤ tlat k := fun k h1 h2 => (hk14 k h1 h2).1
  have htk : ∃ K : Int, K ≤ 190000 ∧ tiB K st asl now nT tdue tlat twk nE edue ewk sp pe tin slp late srv av bd sh idl idn := ⟨K, by omega, hti⟩
  refine lv_aload_n hx hb dL_law_176 rfl (lv_at hl 2 rfl) ?_
  refine lv_aload_n hx hb dL_law_177 rfl (lv_at hl 1 rfl) ?_
  refine lv_iload hx hb dL_law_178 (lv_at hl 0 rfl) ?_
  refine lv_iconst (v := iI 1) hx hb dL_law_180 rfl ?_
  refine zi_add hx hb dL_law_181 ?_
  refine zs_ld hx hb hXs hbl hbA hS (by omega) hL hv1 dL_law_182 ?_
  refine lv_aload_n hx hb dL_law_183 rfl (lv_at hl 1 rfl) ?_
  refine lv_iload hx hb dL_law_184 (lv_at hl 0 rfl) ?_
  refine lv_iconst (v := iI 2) hx hb dL_law_186 rfl ?_
  refine zi_add hx hb dL_law_187 ?_
  refine zs_ld hx hb hXs hbl hbA hS (by omega) hL hv2 dL_law_188 ?_
  refine lv_aload_n hx hb dL_law_189 rfl (lv_at hl 1 rfl) ?_
  refine lv_iload hx hb dL_law_190 (lv_at hl 0 rfl) ?_
  refine lv_iconst (v := iI 3) hx hb dL_law_192 rfl ?_
  refine zi_add hx hb dL_law_193 ?_
  refine zs_ld hx hb hXs hbl hbA hS (by omega) hL hv3 dL_law_194 ?_
  refine lv_aload_n hx hb dL_law_195 rfl (lv_at hl 1 rfl) ?_
  refine lv_iload hx hb dL_law_196 (lv_at hl 0 rfl) ?_
  refine lv_iconst (v := iI 4) hx hb dL_law_198 rfl ?_
  refine zi_add hx hb dL_law_199 ?_
  refine zs_ld hx hb hXs hbl hbA hS (by omega) hL hv4 dL_law_200 ?_
  refine zc_i (vx_runSW (As := [.ref (q 0), .int (iI x1), .int (iI x2), .int (iI x3), .int (iI x4)]) (rest := []) ⟨hx, hb, hml, hown, hts⟩ (kL_setState l dC dI cI cJ cZ q pw co la vo cpar fr cdee use run nC tdue tlat twk nT edue elat ewk nE len cnt tin sp pe slp late srv hv av bd sh sc lt rule now st asl idl idn par div dee o x1 x2 x3 x4 (by first | assumption | omega) (by first | assumption | omega) (by first | assumption | omega) (by first | assumption | omega) (by first | assumption | omega) (by first | assumption | omega) (by first | assumption | omega) (by first | assumption | omega) (by first | assumption | omega) (by first | assumption | omega) (by first | assumption | omega) htr H.size) (vx_cwSW 5 hts gL_law_L_setState rfl rfl rfl (by decide +kernel) ⟨Nat.le_of_ble_eq_true rfl, Nat.le_of_ble_eq_true rfl⟩) (zyS hY hX hS hA hK hP hD [0, 1, 2, 3, 4, 5, 6, 7, 8, 9, 10, 11, 12, 13, 14, 15, 16, 17, 18, 19, 20, 21, 22, 23, 24, 25, 26, 27, 28, 49] rfl rfl) rfl rfl hl.1 rfl (lv_room (Nat.le_of_ble_eq_true rfl)) dL_law_201 ⟨hf1, hf6⟩) hP hD hS hA [0, 1, 2, 3, 4, 5, 6, 7, 8, 9, 10, 11, 12, 13, 14, 15, 16, 17, 18, 19, 20, 21, 22, 23, 24, 25, 26, 27, 28, 49] [29, 30, 31, 32, 33, 34, 35, 36, 37, 38, 39, 40, 41, 42, 43, 44, 45, 46, 47, 48] rfl rfl rfl (by decide) (fun vc uc H locs rc hP hD hS => ?_)
  obtain ⟨kv, st_c, sp_c, pe_c, idl_c, idn_c, len_c, cnt_c, pw_c, co_c, la_c⟩ := uc
  obtain ⟨wc, rc⟩ := rc
  refine ze_i wc ?_
  have rc : (kv = 0 ∧ (((1 ≤ x1 ∧ x1 ≤ 3) ∧ (0 ≤ x2 ∧ x2 ≤ 1000) ∧ (0 ≤ x3 ∧ x3 ≤ 10000) ∧ (0 ≤ x4 ∧ x4 ≤ 100)) ∧ (st_c, sp_c, pe_c, idl_c, idn_c) = scF pw la st asl now sp pe idl idn ∧ idR len_c cnt_c idl_c idn_c) ∧ pw_c = uZ pw x1 x2 ∧ co_c = uZ co x1 x3 ∧ la_c = uZ la x1 x4) ∨ (kv = 1 ∧ (¬ ((1 ≤ x1 ∧ x1 ≤ 3) ∧ (0 ≤ x2 ∧ x2 ≤ 1000) ∧ (0 ≤ x3 ∧ x3 ≤ 10000) ∧ (0 ≤ x4 ∧ x4 ≤ 100))) ∧ st_c = st ∧ sp_c = sp ∧ pe_c = pe ∧ idl_c = idl ∧ idn_c = idn ∧ len_c = len ∧ cnt_c = cnt ∧ pw_c = pw ∧ co_c = co ∧ la_c = la) := rc
  have hP : va_P (dC, dI) vwCl (wLW cI cJ cZ q pw_c co_c la_c vo cpar fr cdee use run nC tdue tlat twk nT edue elat ewk nE len_c cnt_c tin sp_c pe_c slp late srv hv av bd sh sc lt rule now st_c asl idl_c idn_c par div dee pw co la vo nC par div dee use mrun nT tdue tlat twk nE edue ewk rule now st asl idn idl sp pe tin slp late srv hv av bd sh mL mB thr o) H := hP.sub [20, 21, 22, 23, 24, 25, 26, 27, 28, 29, 30, 31, 32, 33, 34, 35, 36, 37, 38, 39, 40, 41, 42, 43, 44, 45, 46, 47, 48, 0, 1, 2, 3, 4, 5, 6, 7, 8, 9, 10, 11, 12, 13, 14, 15, 16, 17, 18, 19, 49] (z_fm rfl)
  have hD : va_D (fun q9 : Nat => s.heap.size ≤ q9) (wLW cI cJ cZ q pw_c co_c la_c vo cpar fr cdee use run nC tdue tlat twk nT edue elat ewk nE len_c cnt_c tin sp_c pe_c slp late srv hv av bd sh sc lt rule now st_c asl idl_c idn_c par div dee pw co la vo nC par div dee use mrun nT tdue tlat twk nE edue ewk rule now st asl idn idl sp pe tin slp late srv hv av bd sh mL mB thr o) := hD.sub [20, 21, 22, 23, 24, 25, 26, 27, 28, 29, 30, 31, 32, 33, 34, 35, 36, 37, 38, 39, 40, 41, 42, 43, 44, 45, 46, 47, 48, 0, 1, 2, 3, 4, 5, 6, 7, 8, 9, 10, 11, 12, 13, 14, 15, 16, 17, 18, 19, 49] (by decide) rfl
  refine lv_istore (lv' := [(5, .int (iI kv)), (4, .int (iI i9)), (0, .ref b), (1, .ref (q 0)), (2, .ref (q 29)), (3, .ref (q 49))]) hx hb dL_law_204 hl (by decide) rfl (fun ls hl => ?_)
  refine lv_aload_n hx hb dL_law_206 rfl (lv_at hl 4 rfl) ?_
  refine lv_aload_n hx hb dL_law_207 rfl (lv_at hl 2 rfl) ?_
  refine lv_iload hx hb dL_law_208 (lv_at hl 1 rfl) ?_
  refine lv_iconst (v := iI 1) hx hb dL_law_210 rfl ?_
  refine zi_add hx hb dL_law_211 ?_
  refine zs_ld hx hb hXs hbl hbA hS (by omega) hL hv1 dL_law_212 ?_
  refine lv_aload_n hx hb dL_law_213 rfl (lv_at hl 2 rfl) ?_
  refine lv_iload hx hb dL_law_214 (lv_at hl 1 rfl) ?_
  refine lv_iconst (v := iI 2) hx hb dL_law_216 rfl ?_
  refine zi_add hx hb dL_law_217 ?_
  refine zs_ld hx hb hXs hbl hbA hS (by omega) hL hv2 dL_law_218 ?_
  refine lv_aload_n hx hb dL_law_219 rfl (lv_at hl 2 rfl) ?_
  refine lv_iload hx hb dL_law_220 (lv_at hl 1 rfl) ?_
  refine lv_iconst (v := iI 3) hx hb dL_law_222 rfl ?_
  refine zi_add hx hb dL_law_223 ?_
  refine zs_ld hx hb hXs hbl hbA hS (by omega) hL hv3 dL_law_224 ?_
  refine lv_aload_n hx hb dL_law_225 rfl (lv_at hl 2 rfl) ?_
  refine lv_iload hx hb dL_law_226 (lv_at hl 1 rfl) ?_
  refine lv_iconst (v := iI 4) hx hb dL_law_228 rfl ?_
  refine zi_add hx hb dL_law_229 ?_
  refine zs_ld hx hb hXs hbl hbA hS (by omega) hL hv4 dL_law_230 ?_
  refine zc_v (va_runV (As := [.int (iI x1), .int (iI x2), .int (iI x3), .int (iI x4)]) (rest := []) ⟨hx, hb, hml, hown, hts⟩ (kX8_setState l dC dI cI cJ cZ (fun i => q (i + 29)) pw co la vo nC par div dee use mrun nT tdue tlat twk nE edue ewk rule now st asl idn idl sp pe tin slp late srv hv av bd sh mL mB thr x1 x2 x3 x4 (by first | assumption | omega) (by first | assumption | omega) (by first | assumption | omega) (by first | assumption | omega) (by first | assumption | omega) (by first | assumption | omega) (by first | assumption | omega) (by first | assumption | omega) (by first | assumption | omega) (by first | assumption | omega) H.size) (cwV 4 hts gL_law_X8_setState rfl rfl rfl (by decide +kernel) ⟨Nat.le_of_ble_eq_true rfl, Nat.le_of_ble_eq_true rfl⟩) (zpV hK hP hD [29, 30, 31, 32, 33, 34, 35, 36, 37, 38, 39, 40, 41, 42, 43, 44, 45, 46, 47, 48] rfl rfl 29 rfl rfl) rfl rfl hl.1 rfl (lv_room (Nat.le_of_ble_eq_true rfl)) dL_law_231 ⟨(by show _ ≤ 1099; omega), (by show _ ≤ 10341; omega)⟩) hP hD hS hA [29, 30, 31, 32, 33, 34, 35, 36, 37, 38, 39, 40, 41, 42, 43, 44, 45, 46, 47, 48] [0, 1, 2, 3, 4, 5, 6, 7, 8, 9, 10, 11, 12, 13, 14, 15, 16, 17, 18, 19, 20, 21, 22, 23, 24, 25, 26, 27, 28, 49] rfl rfl rfl (by decide) (fun um H locs rm hP hD hS => ?_)
  obtain ⟨thr_m, st_m, sp_m, pe_m, idl_m, idn_m, pw_m, co_m, la_m⟩ := um
  have rm : (((1 ≤ x1 ∧ x1 ≤ 3) ∧ (0 ≤ x2 ∧ x2 ≤ 1000) ∧ (0 ≤ x3 ∧ x3 ≤ 10000) ∧ (0 ≤ x4 ∧ x4 ≤ 100)) ∧ thr_m = 0 ∧ (st_m, sp_m, pe_m, idl_m, idn_m) = scF pw la st asl now sp pe idl idn ∧ pw_m = uZ pw x1 x2 ∧ co_m = uZ co x1 x3 ∧ la_m = uZ la x1 x4) ∨ (¬ ((1 ≤ x1 ∧ x1 ≤ 3) ∧ (0 ≤ x2 ∧ x2 ≤ 1000) ∧ (0 ≤ x3 ∧ x3 ≤ 10000) ∧ (0 ≤ x4 ∧ x4 ≤ 100)) ∧ thr_m = 1 ∧ st_m = st ∧ sp_m = sp ∧ pe_m = pe ∧ idl_m = idl ∧ idn_m = idn ∧ pw_m = pw ∧ co_m = co ∧ la_m = la) := rm
  have hP : va_P (dC, dI) vwCl (wLW cI cJ cZ q pw_c co_c la_c vo cpar fr cdee use run nC tdue tlat twk nT edue elat ewk nE len_c cnt_c tin sp_c pe_c slp late srv hv av bd sh sc lt rule now st_c asl idl_c idn_c par div dee pw_m co_m la_m vo nC par div dee use mrun nT tdue tlat twk nE edue ewk rule now st_m asl idn_m idl_m sp_m pe_m tin slp late srv hv av bd sh mL mB thr_m o) H := hP.sub [0, 1, 2, 3, 4, 5, 6, 7, 8, 9, 10, 11, 12, 13, 14, 15, 16, 17, 18, 19, 20, 21, 22, 23, 24, 25, 26, 27, 28, 30, 31, 32, 33, 34, 35, 36, 37, 38, 39, 40, 41, 42, 43, 44, 45, 46, 47, 48, 49, 29] (z_fm rfl)
  have hD : va_D (fun q9 : Nat => s.heap.size ≤ q9) (wLW cI cJ cZ q pw_c co_c la_c vo cpar fr cdee use run nC tdue tlat twk nT edue elat ewk nE len_c cnt_c tin sp_c pe_c slp late srv hv av bd sh sc lt rule now st_c asl idl_c idn_c par div dee pw_m co_m la_m vo nC par div dee use mrun nT tdue tlat twk nE edue ewk rule now st_m asl idn_m idl_m sp_m pe_m tin slp late srv hv av bd sh mL mB thr_m o) := hD.sub [0, 1, 2, 3, 4, 5, 6, 7, 8, 9, 10, 11, 12, 13, 14, 15, 16, 17, 18, 19, 20, 21, 22, 23, 24, 25, 26, 27, 28, 30, 31, 32, 33, 34, 35, 36, 37, 38, 39, 40, 41, 42, 43, 44, 45, 46, 47, 48, 49, 29] (by decide) rfl
  have hlo := lo_setState (mL := mL) (o := o) hK9 hx1 hx2 hx3 hx4 hI rc rm
  obtain ⟨hkt, hk3, q0, q1, q2, q3, q4, q5, q6, q7, hLI⟩ := hlo
  have hP : va_P (dC, dI) vwCl (wLW cI cJ cZ q pw_c co_c la_c vo cpar fr cdee use run nC tdue tlat twk nT edue elat ewk nE len_c cnt_c tin sp_c pe_c slp late srv hv av bd sh sc lt rule now st_c asl idl_c idn_c par div dee pw_c co_c la_c vo nC par div dee use mrun nT tdue tlat twk nE edue ewk rule now st_c asl idn_c idl_c sp_c pe_c tin slp late srv hv av bd sh mL mB thr_m o) H := by rw [q0, q1, q2, q3, q4, q5, q6, q7] at hP; exact hP
  have hD : va_D (fun q9 : Nat => s.heap.size ≤ q9) (wLW cI cJ cZ q pw_c co_c la_c vo cpar fr cdee use run nC tdue tlat twk nT edue elat ewk nE len_c cnt_c tin sp_c pe_c slp late srv hv av bd sh sc lt rule now st_c asl idl_c idn_c par div dee pw_c co_c la_c vo nC par div dee use mrun nT tdue tlat twk nE edue ewk rule now st_c asl idn_c idl_c sp_c pe_c tin slp late srv hv av bd sh mL mB thr_m o) := by rw [q0, q1, q2, q3, q4, q5, q6, q7] at hD; exact hD
  refine lv_aload_n hx hb dL_law_234 rfl (lv_at hl 4 rfl) ?_
  refine zc_pi (va_runV (As := []) (rest := []) ⟨hx, hb, hml, hown, hts⟩ (kX8_thrown l dC dI cI cJ cZ (fun i => q (i + 29)) pw_c co_c la_c vo nC par div dee use mrun nT tdue tlat twk nE edue ewk rule now st_c asl idn_c idl_c sp_c pe_c tin slp late srv hv av bd sh mL mB thr_m ) (cwV 0 hts gL_law_X8_thrown rfl rfl rfl (by decide +kernel) ⟨Nat.le_of_ble_eq_true rfl, Nat.le_of_ble_eq_true rfl⟩) (zqV hK hP [29, 30, 31, 32, 33, 34, 35, 36, 37, 38, 39, 40, 41, 42, 43, 44, 45, 46, 47, 48] rfl 29 rfl rfl) rfl rfl hl.1 rfl (lv_room (Nat.le_of_ble_eq_true rfl)) dL_law_235 ⟨(by show _ ≤ 1099; omega), (by show _ ≤ 10341; omega)⟩) ?_
  refine lv_iload hx hb dL_law_238 (lv_at hl 0 rfl) ?_
  refine zi_same (tgt := 245) hx hb (hkt.symm) dL_law_240 (by decide) ?_
  refine lv_goto (tgt := 1502) hx hb dL_law_245 (by decide) ?_
  refine W.widen (k := cells + 1) (n := slots + 6) (by omega) (by omega) ?_
  exact ih pw_c co_c la_c vo cpar fr cdee use run nC tdue tlat twk nT edue elat ewk nE len_c cnt_c tin sp_c pe_c slp late srv hv av bd sh sc lt rule now st_c asl idl_c idn_c par div dee mrun mL mB thr_m o H locs hLI hP hD hS ls (lv_sub hl [1, 2, 3, 4, 5] rfl)
set_option maxRecDepth 100000 in
set_option maxHeartbeats 4000000 in
theorem lc_setAwake {p : Program} {l : Launch} {e : Env} {s : State} {m : MethodId} {below : List Frame} {meth : Method} {c : Code} {Q : State → Prop} {dC : Nat → ClassId} {dI : Nat → Nat → Nat} {cI cJ cZ : ClassId} {q : Nat → Nat} {b L : Nat} {xs : Nat → Int32} {i9 K : Int} {cells slots : Nat} {pw : Int → Int} {co : Int → Int} {la : Int → Int} {vo : Int → Int} {cpar : Int → Int} {fr : Int → Int} {cdee : Int → Int} {use : Int → Int} {run : Int → Int} {nC : Int} {tdue : Int → Int} {tlat : Int → Int} {twk : Int → Int} {nT : Int} {edue : Int → Int} {elat : Int → Int} {ewk : Int → Int} {nE : Int} {len : Int → Int} {cnt : Int} {tin : Int → Int} {sp : Int} {pe : Int} {slp : Int} {late : Int} {srv : Int} {hv : Int → Int} {av : Int} {bd : Int} {sh : Int} {sc : Int → Int} {lt : Int → Int} {rule : Int} {now : Int} {st : Int} {asl : Int} {idl : Int → Int} {idn : Int} {par : Int → Int} {div : Int → Int} {dee : Int → Int} {mrun : Int → Int} {mL : Int → Int} {mB : Int → Int} {thr : Int} {o : Int → Int} (hE : lEnv p l s m c dC dI cI cJ cZ b L xs) (hi : 0 ≤ i9 ∧ i9 + 5 ≤ L) (hc : cells + 1 ≤ 1099 ∧ slots + 6 ≤ 10341) (hK9 : 0 ≤ K ∧ K ≤ 110000) (ih : lIh p l e s m below meth c Q dC dI cI cJ cZ q b i9 (K + 200) (cells + 1) (slots + 6)) (hI : LI K pw co la vo cpar fr cdee use run nC tdue tlat twk nT edue elat ewk nE len cnt tin sp pe slp late srv hv av bd sh sc lt rule now st asl idl idn par div dee mrun mB) {H : Heap} {locs : List Loc} (hP : va_P (dC, dI) vwCl (wLW cI cJ cZ q pw co la vo cpar fr cdee use run nC tdue tlat twk nT edue elat ewk nE len cnt tin sp pe slp late srv hv av bd sh sc lt rule now st asl idl idn par div dee pw co la vo nC par div dee use mrun nT tdue tlat twk nE edue ewk rule now st asl idn idl sp pe tin slp late srv hv av bd sh mL mB thr o) H) (hD : va_D (fun q9 : Nat => s.heap.size ≤ q9) (wLW cI cJ cZ q pw co la vo cpar fr cdee use run nC tdue tlat twk nT edue elat ewk nE len cnt tin sp pe slp late srv hv av bd sh sc lt rule now st asl idl idn par div dee pw co la vo nC par div dee use mrun nT tdue tlat twk nE edue ewk rule now st asl idn idl sp pe tin slp late srv hv av bd sh mL mB thr o)) (hS : va_S (fun q9 : Nat => s.heap.size ≤ q9) s.heap H locs) {ls : Array Slot} (hl : lv_has ls 8 [(4, .int (iI i9)), (0, .ref b), (1, .ref (q 0)), (2, .ref (q 29)), (3, .ref (q 49))]) : W p l e room_1 s m #[Value.ref b] below meth c H locs cells slots Q (F0 m 248 ls []) := by
  obtain ⟨hx, hb, hml, hown, hts, htr, hX, hY, hK, hXs, hbl, hL⟩ := hE
  have hA : ∀ q9 : Nat, s.heap.size ≤ q9 → (fun q9 : Nat => s.heap.size ≤ q9) q9 := fun _ h => h
  have hbA : ¬ (fun q9 : Nat => s.heap.size ≤ q9) b := Nat.not_le.mpr hbl
  have hf1 : cells + 1 ≤ room_1.cells := hc.1
  have hf6 : slots + 6 ≤ room_1.slots := hc.2
  obtain ⟨x1, hv1, hx1⟩ := iI_of (xs (iI (i9 + 1)).toNatClampNeg)
  obtain ⟨⟨hpw, hco, hla, hc0, hl0⟩, ⟨hnC, hcp, huse, hrun, hcd, hvo, hpp, hdd, hd0, hde, huz, hfr, hfq, hdv, hmrun⟩, ⟨hrl, hhv, hid, hel⟩, hti, ⟨hsc, hlt, hmB⟩⟩ := id hI
  obtain ⟨hst, hasl, hnowK, hnT, htd, htl, htw, hnE, hed, hew, hpeK, hav, hbd, hk14, hev, hidK, hidl⟩ := id hti
  have hnow : 0 ≤ now ∧ now ≤ 200000 := by omega
  have hidn : 0 ≤ idn ∧ idn ≤ 2000000 := by omega
  have hidn1 : 0 ≤ idn ∧ idn ≤ 1000000 := by omega
  have hpe : 0 ≤ pe ∧ pe ≤ 1000000 := by omega
  have hpar : ∀ c : Int, 1 ≤ c → c < nC → 0 ≤ par c ∧ par c < c := fun c h1 h2 => by rw [hpp c h1 h2]; exact hcp c h1 h2
  have htdl : ∀ k : Int, 0 ≤ k → k < nT → tdue k ≤ tlat k := fun k h1 h2 => (hk14 k h1 h2).2
  have htnl : ∀ k : Int, 0 ≤ k → k < nT → now ≤ tlat k := fun k h1 h2 => (hk14 k h1 h2).1
  have htk : ∃ K : Int, K ≤ 190000 ∧ tiB K st asl now nT tdue tlat twk nE edue ewk sp pe tin slp late srv av bd sh idl idn := ⟨K, by omega, hti⟩
  refine lv_aload_n hx hb dL_law_248 rfl (lv_at hl 2 rfl) ?_
  refine lv_aload_n hx hb dL_law_249 rfl (lv_at hl 1 rfl) ?_
  refine lv_iload hx hb dL_law_250 (lv_at hl 0 rfl) ?_
  refine lv_iconst (v := iI 1) hx hb dL_law_252 rfl ?_
  refine zi_add hx hb dL_law_253 ?_
  refine zs_ld hx hb hXs hbl hbA hS (by omega) hL hv1 dL_law_254 ?_
  refine lv_aload_n hx hb dL_law_255 rfl (lv_at hl 4 rfl) ?_
  refine zc_i (vx_runSW (As := [.ref (q 0), .int (iI x1), .ref (q 49)]) (rest := []) ⟨hx, hb, hml, hown, hts⟩ (kL_setAwake l dC dI cI cJ cZ q pw co la vo cpar fr cdee use run nC tdue tlat twk nT edue elat ewk nE len cnt tin sp pe slp late srv hv av bd sh sc lt rule now st asl idl idn par div dee o x1 (by first | assumption | omega) (by first | assumption | omega) (by first | assumption | omega) (by first | assumption | omega) (by first | assumption | omega) (by first | assumption | omega) (by first | assumption | omega) (by first | assumption | omega) (by first | assumption | omega) (by first | assumption | omega) htr H.size) (vx_cwSW 3 hts gL_law_L_setAwake rfl rfl rfl (by decide +kernel) ⟨Nat.le_of_ble_eq_true rfl, Nat.le_of_ble_eq_true rfl⟩) (zyS hY hX hS hA hK hP hD [0, 1, 2, 3, 4, 5, 6, 7, 8, 9, 10, 11, 12, 13, 14, 15, 16, 17, 18, 19, 20, 21, 22, 23, 24, 25, 26, 27, 28, 49] rfl rfl) rfl rfl hl.1 rfl (lv_room (Nat.le_of_ble_eq_true rfl)) dL_law_256 ⟨hf1, hf6⟩) hP hD hS hA [0, 1, 2, 3, 4, 5, 6, 7, 8, 9, 10, 11, 12, 13, 14, 15, 16, 17, 18, 19, 20, 21, 22, 23, 24, 25, 26, 27, 28, 49] [29, 30, 31, 32, 33, 34, 35, 36, 37, 38, 39, 40, 41, 42, 43, 44, 45, 46, 47, 48] rfl rfl rfl (by decide) (fun vc uc H locs rc hP hD hS => ?_)
  obtain ⟨kv, st_c, sp_c, pe_c, idl_c, idn_c, len_c, cnt_c, pw_c, o_c⟩ := uc
  obtain ⟨wc, rc⟩ := rc
  refine ze_i wc ?_
  have rc : (kv = 0 ∧ ((0 ≤ x1 ∧ x1 ≤ 1000) ∧ (st_c, sp_c, pe_c, idl_c, idn_c) = scF pw la st asl now sp pe idl idn ∧ idR len_c cnt_c idl_c idn_c) ∧ pw_c = uZ pw 0 x1 ∧ o_c = uZ o 0 ((iI (pw 0)).toInt)) ∨ (kv = 1 ∧ (¬ (0 ≤ x1 ∧ x1 ≤ 1000)) ∧ st_c = st ∧ sp_c = sp ∧ pe_c = pe ∧ idl_c = idl ∧ idn_c = idn ∧ len_c = len ∧ cnt_c = cnt ∧ pw_c = pw ∧ o_c = o) := rc
  have hP : va_P (dC, dI) vwCl (wLW cI cJ cZ q pw_c co la vo cpar fr cdee use run nC tdue tlat twk nT edue elat ewk nE len_c cnt_c tin sp_c pe_c slp late srv hv av bd sh sc lt rule now st_c asl idl_c idn_c par div dee pw co la vo nC par div dee use mrun nT tdue tlat twk nE edue ewk rule now st asl idn idl sp pe tin slp late srv hv av bd sh mL mB thr o_c) H := hP.sub [20, 21, 22, 23, 24, 25, 26, 27, 28, 29, 30, 31, 32, 33, 34, 35, 36, 37, 38, 39, 40, 41, 42, 43, 44, 45, 46, 47, 48, 0, 1, 2, 3, 4, 5, 6, 7, 8, 9, 10, 11, 12, 13, 14, 15, 16, 17, 18, 19, 49] (z_fm rfl)
  have hD : va_D (fun q9 : Nat => s.heap.size ≤ q9) (wLW cI cJ cZ q pw_c co la vo cpar fr cdee use run nC tdue tlat twk nT edue elat ewk nE len_c cnt_c tin sp_c pe_c slp late srv hv av bd sh sc lt rule now st_c asl idl_c idn_c par div dee pw co la vo nC par div dee use mrun nT tdue tlat twk nE edue ewk rule now st asl idn idl sp pe tin slp late srv hv av bd sh mL mB thr o_c) := hD.sub [20, 21, 22, 23, 24, 25, 26, 27, 28, 29, 30, 31, 32, 33, 34, 35, 36, 37, 38, 39, 40, 41, 42, 43, 44, 45, 46, 47, 48, 0, 1, 2, 3, 4, 5, 6, 7, 8, 9, 10, 11, 12, 13, 14, 15, 16, 17, 18, 19, 49] (by decide) rfl
  refine lv_istore (lv' := [(5, .int (iI kv)), (4, .int (iI i9)), (0, .ref b), (1, .ref (q 0)), (2, .ref (q 29)), (3, .ref (q 49))]) hx hb dL_law_259 hl (by decide) rfl (fun ls hl => ?_)
  refine lv_aload_n hx hb dL_law_261 rfl (lv_at hl 4 rfl) ?_
  refine lv_aload_n hx hb dL_law_262 rfl (lv_at hl 2 rfl) ?_
  refine lv_iload hx hb dL_law_263 (lv_at hl 1 rfl) ?_
  refine lv_iconst (v := iI 1) hx hb dL_law_265 rfl ?_
  refine zi_add hx hb dL_law_266 ?_
  refine zs_ld hx hb hXs hbl hbA hS (by omega) hL hv1 dL_law_267 ?_
  refine zc_i (va_runV (As := [.int (iI x1)]) (rest := []) ⟨hx, hb, hml, hown, hts⟩ (kX8_setAwake l dC dI cI cJ cZ (fun i => q (i + 29)) pw co la vo nC par div dee use mrun nT tdue tlat twk nE edue ewk rule now st asl idn idl sp pe tin slp late srv hv av bd sh mL mB thr x1 (by first | assumption | omega) (by first | assumption | omega) (by first | assumption | omega) (by first | assumption | omega) (by first | assumption | omega) (by first | assumption | omega) (by first | assumption | omega) H.size) (cwV 1 hts gL_law_X8_setAwake rfl rfl rfl (by decide +kernel) ⟨Nat.le_of_ble_eq_true rfl, Nat.le_of_ble_eq_true rfl⟩) (zpV hK hP hD [29, 30, 31, 32, 33, 34, 35, 36, 37, 38, 39, 40, 41, 42, 43, 44, 45, 46, 47, 48] rfl rfl 29 rfl rfl) rfl rfl hl.1 rfl (lv_room (Nat.le_of_ble_eq_true rfl)) dL_law_268 ⟨(by show _ ≤ 1099; omega), (by show _ ≤ 10341; omega)⟩) hP hD hS hA [29, 30, 31, 32, 33, 34, 35, 36, 37, 38, 39, 40, 41, 42, 43, 44, 45, 46, 47, 48] [0, 1, 2, 3, 4, 5, 6, 7, 8, 9, 10, 11, 12, 13, 14, 15, 16, 17, 18, 19, 20, 21, 22, 23, 24, 25, 26, 27, 28, 49] rfl rfl rfl (by decide) (fun vm um H locs rm hP hD hS => ?_)
  obtain ⟨bv, thr_m, st_m, sp_m, pe_m, idl_m, idn_m, pw_m⟩ := um
  obtain ⟨wm, rm⟩ := rm
  refine ze_i wm ?_
  have rm : ((0 ≤ x1 ∧ x1 ≤ 1000) ∧ thr_m = 0 ∧ bv = pw 0 ∧ (st_m, sp_m, pe_m, idl_m, idn_m) = scF pw la st asl now sp pe idl idn ∧ pw_m = uZ pw 0 x1) ∨ (¬ (0 ≤ x1 ∧ x1 ≤ 1000) ∧ thr_m = 1 ∧ st_m = st ∧ sp_m = sp ∧ pe_m = pe ∧ idl_m = idl ∧ idn_m = idn ∧ pw_m = pw) := rm
  have hP : va_P (dC, dI) vwCl (wLW cI cJ cZ q pw_c co la vo cpar fr cdee use run nC tdue tlat twk nT edue elat ewk nE len_c cnt_c tin sp_c pe_c slp late srv hv av bd sh sc lt rule now st_c asl idl_c idn_c par div dee pw_m co la vo nC par div dee use mrun nT tdue tlat twk nE edue ewk rule now st_m asl idn_m idl_m sp_m pe_m tin slp late srv hv av bd sh mL mB thr_m o_c) H := hP.sub [0, 1, 2, 3, 4, 5, 6, 7, 8, 9, 10, 11, 12, 13, 14, 15, 16, 17, 18, 19, 20, 21, 22, 23, 24, 25, 26, 27, 28, 30, 31, 32, 33, 34, 35, 36, 37, 38, 39, 40, 41, 42, 43, 44, 45, 46, 47, 48, 49, 29] (z_fm rfl)
  have hD : va_D (fun q9 : Nat => s.heap.size ≤ q9) (wLW cI cJ cZ q pw_c co la vo cpar fr cdee use run nC tdue tlat twk nT edue elat ewk nE len_c cnt_c tin sp_c pe_c slp late srv hv av bd sh sc lt rule now st_c asl idl_c idn_c par div dee pw_m co la vo nC par div dee use mrun nT tdue tlat twk nE edue ewk rule now st_m asl idn_m idl_m sp_m pe_m tin slp late srv hv av bd sh mL mB thr_m o_c) := hD.sub [0, 1, 2, 3, 4, 5, 6, 7, 8, 9, 10, 11, 12, 13, 14, 15, 16, 17, 18, 19, 20, 21, 22, 23, 24, 25, 26, 27, 28, 30, 31, 32, 33, 34, 35, 36, 37, 38, 39, 40, 41, 42, 43, 44, 45, 46, 47, 48, 49, 29] (by decide) rfl
  have hlo := lo_setAwake (mL := mL) (o := o) hK9 hx1 hI rc rm
  obtain ⟨hkt, hk3, ho9, q0, q1, q2, q3, q4, q5, hLI⟩ := hlo
  have hP : va_P (dC, dI) vwCl (wLW cI cJ cZ q pw_c co la vo cpar fr cdee use run nC tdue tlat twk nT edue elat ewk nE len_c cnt_c tin sp_c pe_c slp late srv hv av bd sh sc lt rule now st_c asl idl_c idn_c par div dee pw_c co la vo nC par div dee use mrun nT tdue tlat twk nE edue ewk rule now st_c asl idn_c idl_c sp_c pe_c tin slp late srv hv av bd sh mL mB thr_m o_c) H := by rw [q0, q1, q2, q3, q4, q5] at hP; exact hP
  have hD : va_D (fun q9 : Nat => s.heap.size ≤ q9) (wLW cI cJ cZ q pw_c co la vo cpar fr cdee use run nC tdue tlat twk nT edue elat ewk nE len_c cnt_c tin sp_c pe_c slp late srv hv av bd sh sc lt rule now st_c asl idl_c idn_c par div dee pw_c co la vo nC par div dee use mrun nT tdue tlat twk nE edue ewk rule now st_c asl idn_c idl_c sp_c pe_c tin slp late srv hv av bd sh mL mB thr_m o_c) := by rw [q0, q1, q2, q3, q4, q5] at hD; exact hD
  refine lv_istore (lv' := [(6, .int (iI bv)), (5, .int (iI kv)), (4, .int (iI i9)), (0, .ref b), (1, .ref (q 0)), (2, .ref (q 29)), (3, .ref (q 49))]) hx hb dL_law_271 hl (by decide) rfl (fun ls hl => ?_)
  refine lv_aload_n hx hb dL_law_273 rfl (lv_at hl 5 rfl) ?_
  refine zc_pi (va_runV (As := []) (rest := []) ⟨hx, hb, hml, hown, hts⟩ (kX8_thrown l dC dI cI cJ cZ (fun i => q (i + 29)) pw_c co la vo nC par div dee use mrun nT tdue tlat twk nE edue ewk rule now st_c asl idn_c idl_c sp_c pe_c tin slp late srv hv av bd sh mL mB thr_m ) (cwV 0 hts gL_law_X8_thrown rfl rfl rfl (by decide +kernel) ⟨Nat.le_of_ble_eq_true rfl, Nat.le_of_ble_eq_true rfl⟩) (zqV hK hP [29, 30, 31, 32, 33, 34, 35, 36, 37, 38, 39, 40, 41, 42, 43, 44, 45, 46, 47, 48] rfl 29 rfl rfl) rfl rfl hl.1 rfl (lv_room (Nat.le_of_ble_eq_true rfl)) dL_law_274 ⟨(by show _ ≤ 1099; omega), (by show _ ≤ 10341; omega)⟩) ?_
  refine lv_iload hx hb dL_law_277 (lv_at hl 1 rfl) ?_
  refine zi_same (tgt := 284) hx hb (hkt.symm) dL_law_279 (by decide) ?_
  refine lv_iload hx hb dL_law_284 (lv_at hl 1 rfl) ?_
  refine zi_fne (tgt := 301) hx hb (by omega) dL_law_286 (by decide) (fun hk0 => ?_) (fun hk0 => ?_)
  · skip
    refine lv_goto (tgt := 1502) hx hb dL_law_301 (by decide) ?_
    refine W.widen (k := cells + 1) (n := slots + 6) (by omega) (by omega) ?_
    exact ih pw_c co la vo cpar fr cdee use run nC tdue tlat twk nT edue elat ewk nE len_c cnt_c tin sp_c pe_c slp late srv hv av bd sh sc lt rule now st_c asl idl_c idn_c par div dee mrun mL mB thr_m o_c H locs hLI hP hD hS ls (lv_sub hl [2, 3, 4, 5, 6] rfl)
  refine lv_aload_n hx hb dL_law_289 rfl (lv_at hl 6 rfl) ?_
  refine lv_iconst (v := iI 0) hx hb dL_law_290 rfl ?_
  refine za_lld hx hb hK hP 49 1 rfl rfl (by decide) (by decide) dL_law_291 ?_
  refine lv_iload hx hb dL_law_292 (lv_at hl 0 rfl) ?_
  refine zi_l0 hx hb dL_law_294 ?_
  refine zl_same (tgt := 301) hx hb (ho9 hk0) dL_law_295 dL_law_296 (by decide) ?_
  refine lv_goto (tgt := 1502) hx hb dL_law_301 (by decide) ?_
  refine W.widen (k := cells + 1) (n := slots + 6) (by omega) (by omega) ?_
  exact ih pw_c co la vo cpar fr cdee use run nC tdue tlat twk nT edue elat ewk nE len_c cnt_c tin sp_c pe_c slp late srv hv av bd sh sc lt rule now st_c asl idl_c idn_c par div dee mrun mL mB thr_m o_c H locs hLI hP hD hS ls (lv_sub hl [2, 3, 4, 5, 6] rfl)
set_option maxRecDepth 100000 in
set_option maxHeartbeats 4000000 in
theorem lc_vote {p : Program} {l : Launch} {e : Env} {s : State} {m : MethodId} {below : List Frame} {meth : Method} {c : Code} {Q : State → Prop} {dC : Nat → ClassId} {dI : Nat → Nat → Nat} {cI cJ cZ : ClassId} {q : Nat → Nat} {b L : Nat} {xs : Nat → Int32} {i9 K : Int} {cells slots : Nat} {pw : Int → Int} {co : Int → Int} {la : Int → Int} {vo : Int → Int} {cpar : Int → Int} {fr : Int → Int} {cdee : Int → Int} {use : Int → Int} {run : Int → Int} {nC : Int} {tdue : Int → Int} {tlat : Int → Int} {twk : Int → Int} {nT : Int} {edue : Int → Int} {elat : Int → Int} {ewk : Int → Int} {nE : Int} {len : Int → Int} {cnt : Int} {tin : Int → Int} {sp : Int} {pe : Int} {slp : Int} {late : Int} {srv : Int} {hv : Int → Int} {av : Int} {bd : Int} {sh : Int} {sc : Int → Int} {lt : Int → Int} {rule : Int} {now : Int} {st : Int} {asl : Int} {idl : Int → Int} {idn : Int} {par : Int → Int} {div : Int → Int} {dee : Int → Int} {mrun : Int → Int} {mL : Int → Int} {mB : Int → Int} {thr : Int} {o : Int → Int} (hE : lEnv p l s m c dC dI cI cJ cZ b L xs) (hi : 0 ≤ i9 ∧ i9 + 5 ≤ L) (hc : cells + 1 ≤ 1099 ∧ slots + 6 ≤ 10341) (hK9 : 0 ≤ K ∧ K ≤ 110000) (ih : lIh p l e s m below meth c Q dC dI cI cJ cZ q b i9 (K + 200) (cells + 1) (slots + 6)) (hI : LI K pw co la vo cpar fr cdee use run nC tdue tlat twk nT edue elat ewk nE len cnt tin sp pe slp late srv hv av bd sh sc lt rule now st asl idl idn par div dee mrun mB) {H : Heap} {locs : List Loc} (hP : va_P (dC, dI) vwCl (wLW cI cJ cZ q pw co la vo cpar fr cdee use run nC tdue tlat twk nT edue elat ewk nE len cnt tin sp pe slp late srv hv av bd sh sc lt rule now st asl idl idn par div dee pw co la vo nC par div dee use mrun nT tdue tlat twk nE edue ewk rule now st asl idn idl sp pe tin slp late srv hv av bd sh mL mB thr o) H) (hD : va_D (fun q9 : Nat => s.heap.size ≤ q9) (wLW cI cJ cZ q pw co la vo cpar fr cdee use run nC tdue tlat twk nT edue elat ewk nE len cnt tin sp pe slp late srv hv av bd sh sc lt rule now st asl idl idn par div dee pw co la vo nC par div dee use mrun nT tdue tlat twk nE edue ewk rule now st asl idn idl sp pe tin slp late srv hv av bd sh mL mB thr o)) (hS : va_S (fun q9 : Nat => s.heap.size ≤ q9) s.heap H locs) {ls : Array Slot} (hl : lv_has ls 8 [(4, .int (iI i9)), (0, .ref b), (1, .ref (q 0)), (2, .ref (q 29)), (3, .ref (q 49))]) : W p l e room_1 s m #[Value.ref b] below meth c H locs cells slots Q (F0 m 304 ls []) := by
  obtain ⟨hx, hb, hml, hown, hts, htr, hX, hY, hK, hXs, hbl, hL⟩ := hE
  have hA : ∀ q9 : Nat, s.heap.size ≤ q9 → (fun q9 : Nat => s.heap.size ≤ q9) q9 := fun _ h => h
  have hbA : ¬ (fun q9 : Nat => s.heap.size ≤ q9) b := Nat.not_le.mpr hbl
  have hf1 : cells + 1 ≤ room_1.cells := hc.1
  have hf6 : slots + 6 ≤ room_1.slots := hc.2
  obtain ⟨x1, hv1, hx1⟩ := iI_of (xs (iI (i9 + 1)).toNatClampNeg)
  obtain ⟨x2, hv2, hx2⟩ := iI_of (xs (iI (i9 + 2)).toNatClampNeg)
  obtain ⟨⟨hpw, hco, hla, hc0, hl0⟩, ⟨hnC, hcp, huse, hrun, hcd, hvo, hpp, hdd, hd0, hde, huz, hfr, hfq, hdv, hmrun⟩, ⟨hrl, hhv, hid, hel⟩, hti, ⟨hsc, hlt, hmB⟩⟩ := id hI
  obtain ⟨hst, hasl, hnowK, hnT, htd, htl, htw, hnE, hed, hew, hpeK, hav, hbd, hk14, hev, hidK, hidl⟩ := id hti
  have hnow : 0 ≤ now ∧ now ≤ 200000 := by omega
  have hidn : 0 ≤ idn ∧ idn ≤ 2000000 := by omega
  have hidn1 : 0 ≤ idn ∧ idn ≤ 1000000 := by omega
  have hpe : 0 ≤ pe ∧ pe ≤ 1000000 := by omega
  have hpar : ∀ c : Int, 1 ≤ c → c < nC → 0 ≤ par c ∧ par c < c := fun c h1 h2 => by rw [hpp c h1 h2]; exact hcp c h1 h2
  have htdl : ∀ k : Int, 0 ≤ k → k < nT → tdue k ≤ tlat k := fun k h1 h2 => (hk14 k h1 h2).2
  have htnl : ∀ k : Int, 0 ≤ k → k < nT → now ≤ tlat k := fun k h1 h2 => (hk14 k h1 h2).1
  have htk : ∃ K : Int, K ≤ 190000 ∧ tiB K st asl now nT tdue tlat twk nE edue ewk sp pe tin slp late srv av bd sh idl idn := ⟨K, by omega, hti⟩
  refine lv_aload_n hx hb dL_law_304 rfl (lv_at hl 2 rfl) ?_
  refine lv_aload_n hx hb dL_law_305 rfl (lv_at hl 1 rfl) ?_
  refine lv_iload hx hb dL_law_306 (lv_at hl 0 rfl) ?_
  refine lv_iconst (v := iI 1) hx hb dL_law_308 rfl ?_
  refine zi_add hx hb dL_law_309 ?_
  refine zs_ld hx hb hXs hbl hbA hS (by omega) hL hv1 dL_law_310 ?_
  refine lv_aload_n hx hb dL_law_311 rfl (lv_at hl 1 rfl) ?_
  refine lv_iload hx hb dL_law_312 (lv_at hl 0 rfl) ?_
  refine lv_iconst (v := iI 2) hx hb dL_law_314 rfl ?_
  refine zi_add hx hb dL_law_315 ?_
  refine zs_ld hx hb hXs hbl hbA hS (by omega) hL hv2 dL_law_316 ?_
  refine lv_aload_n hx hb dL_law_317 rfl (lv_at hl 4 rfl) ?_
  refine zc_i (vx_runSW (As := [.ref (q 0), .int (iI x1), .int (iI x2), .ref (q 49)]) (rest := []) ⟨hx, hb, hml, hown, hts⟩ (kL_vote l dC dI cI cJ cZ q pw co la vo cpar fr cdee use run nC tdue tlat twk nT edue elat ewk nE len cnt tin sp pe slp late srv hv av bd sh sc lt rule now st asl idl idn par div dee o x1 x2 (by first | assumption | omega) (by first | assumption | omega) (by first | assumption | omega) (by first | assumption | omega) (by first | assumption | omega) (by first | assumption | omega) (by first | assumption | omega) (by first | assumption | omega) (by first | assumption | omega) htr H.size) (vx_cwSW 4 hts gL_law_L_vote rfl rfl rfl (by decide +kernel) ⟨Nat.le_of_ble_eq_true rfl, Nat.le_of_ble_eq_true rfl⟩) (zyS hY hX hS hA hK hP hD [0, 1, 2, 3, 4, 5, 6, 7, 8, 9, 10, 11, 12, 13, 14, 15, 16, 17, 18, 19, 20, 21, 22, 23, 24, 25, 26, 27, 28, 49] rfl rfl) rfl rfl hl.1 rfl (lv_room (Nat.le_of_ble_eq_true rfl)) dL_law_318 ⟨hf1, hf6⟩) hP hD hS hA [0, 1, 2, 3, 4, 5, 6, 7, 8, 9, 10, 11, 12, 13, 14, 15, 16, 17, 18, 19, 20, 21, 22, 23, 24, 25, 26, 27, 28, 49] [29, 30, 31, 32, 33, 34, 35, 36, 37, 38, 39, 40, 41, 42, 43, 44, 45, 46, 47, 48] rfl rfl rfl (by decide) (fun vc uc H locs rc hP hD hS => ?_)
  obtain ⟨kv, st_c, sp_c, pe_c, idl_c, idn_c, len_c, cnt_c, vo_c, o_c⟩ := uc
  obtain ⟨wc, rc⟩ := rc
  refine ze_i wc ?_
  have rc : (kv = 0 ∧ (((0 ≤ x1 ∧ x1 ≤ 5) ∧ (0 ≤ x2 ∧ x2 ≤ 3)) ∧ (st_c, sp_c, pe_c, idl_c, idn_c) = scF pw la st asl now sp pe idl idn ∧ idR len_c cnt_c idl_c idn_c) ∧ vo_c = uZ vo x1 x2 ∧ o_c = uZ o 0 ((iI (vo x1)).toInt)) ∨ (kv = 1 ∧ (¬ ((0 ≤ x1 ∧ x1 ≤ 5) ∧ (0 ≤ x2 ∧ x2 ≤ 3))) ∧ st_c = st ∧ sp_c = sp ∧ pe_c = pe ∧ idl_c = idl ∧ idn_c = idn ∧ len_c = len ∧ cnt_c = cnt ∧ vo_c = vo ∧ o_c = o) := rc
  have hP : va_P (dC, dI) vwCl (wLW cI cJ cZ q pw co la vo_c cpar fr cdee use run nC tdue tlat twk nT edue elat ewk nE len_c cnt_c tin sp_c pe_c slp late srv hv av bd sh sc lt rule now st_c asl idl_c idn_c par div dee pw co la vo nC par div dee use mrun nT tdue tlat twk nE edue ewk rule now st asl idn idl sp pe tin slp late srv hv av bd sh mL mB thr o_c) H := hP.sub [20, 21, 22, 23, 24, 25, 26, 27, 28, 29, 30, 31, 32, 33, 34, 35, 36, 37, 38, 39, 40, 41, 42, 43, 44, 45, 46, 47, 48, 0, 1, 2, 3, 4, 5, 6, 7, 8, 9, 10, 11, 12, 13, 14, 15, 16, 17, 18, 19, 49] (z_fm rfl)
  have hD : va_D (fun q9 : Nat => s.heap.size ≤ q9) (wLW cI cJ cZ q pw co la vo_c cpar fr cdee use run nC tdue tlat twk nT edue elat ewk nE len_c cnt_c tin sp_c pe_c slp late srv hv av bd sh sc lt rule now st_c asl idl_c idn_c par div dee pw co la vo nC par div dee use mrun nT tdue tlat twk nE edue ewk rule now st asl idn idl sp pe tin slp late srv hv av bd sh mL mB thr o_c) := hD.sub [20, 21, 22, 23, 24, 25, 26, 27, 28, 29, 30, 31, 32, 33, 34, 35, 36, 37, 38, 39, 40, 41, 42, 43, 44, 45, 46, 47, 48, 0, 1, 2, 3, 4, 5, 6, 7, 8, 9, 10, 11, 12, 13, 14, 15, 16, 17, 18, 19, 49] (by decide) rfl
  refine lv_istore (lv' := [(5, .int (iI kv)), (4, .int (iI i9)), (0, .ref b), (1, .ref (q 0)), (2, .ref (q 29)), (3, .ref (q 49))]) hx hb dL_law_321 hl (by decide) rfl (fun ls hl => ?_)
  refine lv_aload_n hx hb dL_law_323 rfl (lv_at hl 4 rfl) ?_
  refine lv_aload_n hx hb dL_law_324 rfl (lv_at hl 2 rfl) ?_
  refine lv_iload hx hb dL_law_325 (lv_at hl 1 rfl) ?_
  refine lv_iconst (v := iI 1) hx hb dL_law_327 rfl ?_
  refine zi_add hx hb dL_law_328 ?_
  refine zs_ld hx hb hXs hbl hbA hS (by omega) hL hv1 dL_law_329 ?_
  refine lv_aload_n hx hb dL_law_330 rfl (lv_at hl 2 rfl) ?_
  refine lv_iload hx hb dL_law_331 (lv_at hl 1 rfl) ?_
  refine lv_iconst (v := iI 2) hx hb dL_law_333 rfl ?_
  refine zi_add hx hb dL_law_334 ?_
  refine zs_ld hx hb hXs hbl hbA hS (by omega) hL hv2 dL_law_335 ?_
  refine zc_i (va_runV (As := [.int (iI x1), .int (iI x2)]) (rest := []) ⟨hx, hb, hml, hown, hts⟩ (kX8_vote l dC dI cI cJ cZ (fun i => q (i + 29)) pw co la vo nC par div dee use mrun nT tdue tlat twk nE edue ewk rule now st asl idn idl sp pe tin slp late srv hv av bd sh mL mB thr x1 x2 (by first | assumption | omega) (by first | assumption | omega) (by first | assumption | omega) (by first | assumption | omega) (by first | assumption | omega) (by first | assumption | omega) (by first | assumption | omega) (by first | assumption | omega) H.size) (cwV 2 hts gL_law_X8_vote rfl rfl rfl (by decide +kernel) ⟨Nat.le_of_ble_eq_true rfl, Nat.le_of_ble_eq_true rfl⟩) (zpV hK hP hD [29, 30, 31, 32, 33, 34, 35, 36, 37, 38, 39, 40, 41, 42, 43, 44, 45, 46, 47, 48] rfl rfl 29 rfl rfl) rfl rfl hl.1 rfl (lv_room (Nat.le_of_ble_eq_true rfl)) dL_law_336 ⟨(by show _ ≤ 1099; omega), (by show _ ≤ 10341; omega)⟩) hP hD hS hA [29, 30, 31, 32, 33, 34, 35, 36, 37, 38, 39, 40, 41, 42, 43, 44, 45, 46, 47, 48] [0, 1, 2, 3, 4, 5, 6, 7, 8, 9, 10, 11, 12, 13, 14, 15, 16, 17, 18, 19, 20, 21, 22, 23, 24, 25, 26, 27, 28, 49] rfl rfl rfl (by decide) (fun vm um H locs rm hP hD hS => ?_)
  obtain ⟨bv, thr_m, st_m, sp_m, pe_m, idl_m, idn_m, vo_m⟩ := um
  obtain ⟨wm, rm⟩ := rm
  refine ze_i wm ?_
  have rm : (((0 ≤ x1 ∧ x1 ≤ 5) ∧ (0 ≤ x2 ∧ x2 ≤ 3)) ∧ thr_m = 0 ∧ bv = vo x1 ∧ (st_m, sp_m, pe_m, idl_m, idn_m) = scF pw la st asl now sp pe idl idn ∧ vo_m = uZ vo x1 x2) ∨ (¬ ((0 ≤ x1 ∧ x1 ≤ 5) ∧ (0 ≤ x2 ∧ x2 ≤ 3)) ∧ thr_m = 1 ∧ st_m = st ∧ sp_m = sp ∧ pe_m = pe ∧ idl_m = idl ∧ idn_m = idn ∧ vo_m = vo) := rm
  have hP : va_P (dC, dI) vwCl (wLW cI cJ cZ q pw co la vo_c cpar fr cdee use run nC tdue tlat twk nT edue elat ewk nE len_c cnt_c tin sp_c pe_c slp late srv hv av bd sh sc lt rule now st_c asl idl_c idn_c par div dee pw co la vo_m nC par div dee use mrun nT tdue tlat twk nE edue ewk rule now st_m asl idn_m idl_m sp_m pe_m tin slp late srv hv av bd sh mL mB thr_m o_c) H := hP.sub [0, 1, 2, 3, 4, 5, 6, 7, 8, 9, 10, 11, 12, 13, 14, 15, 16, 17, 18, 19, 20, 21, 22, 23, 24, 25, 26, 27, 28, 30, 31, 32, 33, 34, 35, 36, 37, 38, 39, 40, 41, 42, 43, 44, 45, 46, 47, 48, 49, 29] (z_fm rfl)
  have hD : va_D (fun q9 : Nat => s.heap.size ≤ q9) (wLW cI cJ cZ q pw co la vo_c cpar fr cdee use run nC tdue tlat twk nT edue elat ewk nE len_c cnt_c tin sp_c pe_c slp late srv hv av bd sh sc lt rule now st_c asl idl_c idn_c par div dee pw co la vo_m nC par div dee use mrun nT tdue tlat twk nE edue ewk rule now st_m asl idn_m idl_m sp_m pe_m tin slp late srv hv av bd sh mL mB thr_m o_c) := hD.sub [0, 1, 2, 3, 4, 5, 6, 7, 8, 9, 10, 11, 12, 13, 14, 15, 16, 17, 18, 19, 20, 21, 22, 23, 24, 25, 26, 27, 28, 30, 31, 32, 33, 34, 35, 36, 37, 38, 39, 40, 41, 42, 43, 44, 45, 46, 47, 48, 49, 29] (by decide) rfl
  have hlo := lo_vote (mL := mL) (o := o) hK9 hx1 hx2 hI rc rm
  obtain ⟨hkt, hk3, ho9, q0, q1, q2, q3, q4, q5, hLI⟩ := hlo
  have hP : va_P (dC, dI) vwCl (wLW cI cJ cZ q pw co la vo_c cpar fr cdee use run nC tdue tlat twk nT edue elat ewk nE len_c cnt_c tin sp_c pe_c slp late srv hv av bd sh sc lt rule now st_c asl idl_c idn_c par div dee pw co la vo_c nC par div dee use mrun nT tdue tlat twk nE edue ewk rule now st_c asl idn_c idl_c sp_c pe_c tin slp late srv hv av bd sh mL mB thr_m o_c) H := by rw [q0, q1, q2, q3, q4, q5] at hP; exact hP
  have hD : va_D (fun q9 : Nat => s.heap.size ≤ q9) (wLW cI cJ cZ q pw co la vo_c cpar fr cdee use run nC tdue tlat twk nT edue elat ewk nE len_c cnt_c tin sp_c pe_c slp late srv hv av bd sh sc lt rule now st_c asl idl_c idn_c par div dee pw co la vo_c nC par div dee use mrun nT tdue tlat twk nE edue ewk rule now st_c asl idn_c idl_c sp_c pe_c tin slp late srv hv av bd sh mL mB thr_m o_c) := by rw [q0, q1, q2, q3, q4, q5] at hD; exact hD
  refine lv_istore (lv' := [(6, .int (iI bv)), (5, .int (iI kv)), (4, .int (iI i9)), (0, .ref b), (1, .ref (q 0)), (2, .ref (q 29)), (3, .ref (q 49))]) hx hb dL_law_339 hl (by decide) rfl (fun ls hl => ?_)
  refine lv_aload_n hx hb dL_law_341 rfl (lv_at hl 5 rfl) ?_
  refine zc_pi (va_runV (As := []) (rest := []) ⟨hx, hb, hml, hown, hts⟩ (kX8_thrown l dC dI cI cJ cZ (fun i => q (i + 29)) pw co la vo_c nC par div dee use mrun nT tdue tlat twk nE edue ewk rule now st_c asl idn_c idl_c sp_c pe_c tin slp late srv hv av bd sh mL mB thr_m ) (cwV 0 hts gL_law_X8_thrown rfl rfl rfl (by decide +kernel) ⟨Nat.le_of_ble_eq_true rfl, Nat.le_of_ble_eq_true rfl⟩) (zqV hK hP [29, 30, 31, 32, 33, 34, 35, 36, 37, 38, 39, 40, 41, 42, 43, 44, 45, 46, 47, 48] rfl 29 rfl rfl) rfl rfl hl.1 rfl (lv_room (Nat.le_of_ble_eq_true rfl)) dL_law_342 ⟨(by show _ ≤ 1099; omega), (by show _ ≤ 10341; omega)⟩) ?_
  refine lv_iload hx hb dL_law_345 (lv_at hl 1 rfl) ?_
  refine zi_same (tgt := 352) hx hb (hkt.symm) dL_law_347 (by decide) ?_
  refine lv_iload hx hb dL_law_352 (lv_at hl 1 rfl) ?_
  refine zi_fne (tgt := 369) hx hb (by omega) dL_law_354 (by decide) (fun hk0 => ?_) (fun hk0 => ?_)
  · skip
    refine lv_goto (tgt := 1502) hx hb dL_law_369 (by decide) ?_
    refine W.widen (k := cells + 1) (n := slots + 6) (by omega) (by omega) ?_
    exact ih pw co la vo_c cpar fr cdee use run nC tdue tlat twk nT edue elat ewk nE len_c cnt_c tin sp_c pe_c slp late srv hv av bd sh sc lt rule now st_c asl idl_c idn_c par div dee mrun mL mB thr_m o_c H locs hLI hP hD hS ls (lv_sub hl [2, 3, 4, 5, 6] rfl)
  refine lv_aload_n hx hb dL_law_357 rfl (lv_at hl 6 rfl) ?_
  refine lv_iconst (v := iI 0) hx hb dL_law_358 rfl ?_
  refine za_lld hx hb hK hP 49 1 rfl rfl (by decide) (by decide) dL_law_359 ?_
  refine lv_iload hx hb dL_law_360 (lv_at hl 0 rfl) ?_
  refine zi_l0 hx hb dL_law_362 ?_
  refine zl_same (tgt := 369) hx hb (ho9 hk0) dL_law_363 dL_law_364 (by decide) ?_
  refine lv_goto (tgt := 1502) hx hb dL_law_369 (by decide) ?_
  refine W.widen (k := cells + 1) (n := slots + 6) (by omega) (by omega) ?_
  exact ih pw co la vo_c cpar fr cdee use run nC tdue tlat twk nT edue elat ewk nE len_c cnt_c tin sp_c pe_c slp late srv hv av bd sh sc lt rule now st_c asl idl_c idn_c par div dee mrun mL mB thr_m o_c H locs hLI hP hD hS ls (lv_sub hl [2, 3, 4, 5, 6] rfl)
set_option maxRecDepth 100000 in
set_option maxHeartbeats 4000000 in
theorem lc_addClock {p : Program} {l : Launch} {e : Env} {s : State} {m : MethodId} {below : List Frame} {meth : Method} {c : Code} {Q : State → Prop} {dC : Nat → ClassId} {dI : Nat → Nat → Nat} {cI cJ cZ : ClassId} {q : Nat → Nat} {b L : Nat} {xs : Nat → Int32} {i9 K : Int} {cells slots : Nat} {pw : Int → Int} {co : Int → Int} {la : Int → Int} {vo : Int → Int} {cpar : Int → Int} {fr : Int → Int} {cdee : Int → Int} {use : Int → Int} {run : Int → Int} {nC : Int} {tdue : Int → Int} {tlat : Int → Int} {twk : Int → Int} {nT : Int} {edue : Int → Int} {elat : Int → Int} {ewk : Int → Int} {nE : Int} {len : Int → Int} {cnt : Int} {tin : Int → Int} {sp : Int} {pe : Int} {slp : Int} {late : Int} {srv : Int} {hv : Int → Int} {av : Int} {bd : Int} {sh : Int} {sc : Int → Int} {lt : Int → Int} {rule : Int} {now : Int} {st : Int} {asl : Int} {idl : Int → Int} {idn : Int} {par : Int → Int} {div : Int → Int} {dee : Int → Int} {mrun : Int → Int} {mL : Int → Int} {mB : Int → Int} {thr : Int} {o : Int → Int} (hE : lEnv p l s m c dC dI cI cJ cZ b L xs) (hi : 0 ≤ i9 ∧ i9 + 5 ≤ L) (hc : cells + 1 ≤ 1099 ∧ slots + 6 ≤ 10341) (hK9 : 0 ≤ K ∧ K ≤ 110000) (ih : lIh p l e s m below meth c Q dC dI cI cJ cZ q b i9 (K + 200) (cells + 1) (slots + 6)) (hI : LI K pw co la vo cpar fr cdee use run nC tdue tlat twk nT edue elat ewk nE len cnt tin sp pe slp late srv hv av bd sh sc lt rule now st asl idl idn par div dee mrun mB) {H : Heap} {locs : List Loc} (hP : va_P (dC, dI) vwCl (wLW cI cJ cZ q pw co la vo cpar fr cdee use run nC tdue tlat twk nT edue elat ewk nE len cnt tin sp pe slp late srv hv av bd sh sc lt rule now st asl idl idn par div dee pw co la vo nC par div dee use mrun nT tdue tlat twk nE edue ewk rule now st asl idn idl sp pe tin slp late srv hv av bd sh mL mB thr o) H) (hD : va_D (fun q9 : Nat => s.heap.size ≤ q9) (wLW cI cJ cZ q pw co la vo cpar fr cdee use run nC tdue tlat twk nT edue elat ewk nE len cnt tin sp pe slp late srv hv av bd sh sc lt rule now st asl idl idn par div dee pw co la vo nC par div dee use mrun nT tdue tlat twk nE edue ewk rule now st asl idn idl sp pe tin slp late srv hv av bd sh mL mB thr o)) (hS : va_S (fun q9 : Nat => s.heap.size ≤ q9) s.heap H locs) {ls : Array Slot} (hl : lv_has ls 8 [(4, .int (iI i9)), (0, .ref b), (1, .ref (q 0)), (2, .ref (q 29)), (3, .ref (q 49))]) : W p l e room_1 s m #[Value.ref b] below meth c H locs cells slots Q (F0 m 372 ls []) := by
  obtain ⟨hx, hb, hml, hown, hts, htr, hX, hY, hK, hXs, hbl, hL⟩ := hE
  have hA : ∀ q9 : Nat, s.heap.size ≤ q9 → (fun q9 : Nat => s.heap.size ≤ q9) q9 := fun _ h => h
  have hbA : ¬ (fun q9 : Nat => s.heap.size ≤ q9) b := Nat.not_le.mpr hbl
  have hf1 : cells + 1 ≤ room_1.cells := hc.1
  have hf6 : slots + 6 ≤ room_1.slots := hc.2
  obtain ⟨x1, hv1, hx1⟩ := iI_of (xs (iI (i9 + 1)).toNatClampNeg)
  obtain ⟨x2, hv2, hx2⟩ := iI_of (xs (iI (i9 + 2)).toNatClampNeg)
  obtain ⟨x3, hv3, hx3⟩ := iI_of (xs (iI (i9 + 3)).toNatClampNeg)
  obtain ⟨⟨hpw, hco, hla, hc0, hl0⟩, ⟨hnC, hcp, huse, hrun, hcd, hvo, hpp, hdd, hd0, hde, huz, hfr, hfq, hdv, hmrun⟩, ⟨hrl, hhv, hid, hel⟩, hti, ⟨hsc, hlt, hmB⟩⟩ := id hI
  obtain ⟨hst, hasl, hnowK, hnT, htd, htl, htw, hnE, hed, hew, hpeK, hav, hbd, hk14, hev, hidK, hidl⟩ := id hti
  have hnow : 0 ≤ now ∧ now ≤ 200000 := by omega
  have hidn : 0 ≤ idn ∧ idn ≤ 2000000 := by omega
  have hidn1 : 0 ≤ idn ∧ idn ≤ 1000000 := by omega
  have hpe : 0 ≤ pe ∧ pe ≤ 1000000 := by omega
  have hpar : ∀ c : Int, 1 ≤ c → c < nC → 0 ≤ par c ∧ par c < c := fun c h1 h2 => by rw [hpp c h1 h2]; exact hcp c h1 h2
  have htdl : ∀ k : Int, 0 ≤ k → k < nT → tdue k ≤ tlat k := fun k h1 h2 => (hk14 k h1 h2).2
  have htnl : ∀ k : Int, 0 ≤ k → k < nT → now ≤ tlat k := fun k h1 h2 => (hk14 k h1 h2).1
  have htk : ∃ K : Int, K ≤ 190000 ∧ tiB K st asl now nT tdue tlat twk nE edue ewk sp pe tin slp late srv av bd sh idl idn := ⟨K, by omega, hti⟩
  refine lv_aload_n hx hb dL_law_372 rfl (lv_at hl 2 rfl) ?_
  refine lv_aload_n hx hb dL_law_373 rfl (lv_at hl 1 rfl) ?_
  refine lv_iload hx hb dL_law_374 (lv_at hl 0 rfl) ?_
  refine lv_iconst (v := iI 1) hx hb dL_law_376 rfl ?_
  refine zi_add hx hb dL_law_377 ?_
  refine zs_ld hx hb hXs hbl hbA hS (by omega) hL hv1 dL_law_378 ?_
  refine lv_aload_n hx hb dL_law_379 rfl (lv_at hl 1 rfl) ?_
  refine lv_iload hx hb dL_law_380 (lv_at hl 0 rfl) ?_
  refine lv_iconst (v := iI 2) hx hb dL_law_382 rfl ?_
  refine zi_add hx hb dL_law_383 ?_
  refine zs_ld hx hb hXs hbl hbA hS (by omega) hL hv2 dL_law_384 ?_
  refine lv_aload_n hx hb dL_law_385 rfl (lv_at hl 1 rfl) ?_
  refine lv_iload hx hb dL_law_386 (lv_at hl 0 rfl) ?_
  refine lv_iconst (v := iI 3) hx hb dL_law_388 rfl ?_
  refine zi_add hx hb dL_law_389 ?_
  refine zs_ld hx hb hXs hbl hbA hS (by omega) hL hv3 dL_law_390 ?_
  refine lv_aload_n hx hb dL_law_391 rfl (lv_at hl 4 rfl) ?_
  refine zc_i (vx_runSW (As := [.ref (q 0), .int (iI x1), .int (iI x2), .int (iI x3), .ref (q 49)]) (rest := []) ⟨hx, hb, hml, hown, hts⟩ (kL_addClock l dC dI cI cJ cZ q pw co la vo cpar fr cdee use run nC tdue tlat twk nT edue elat ewk nE len cnt tin sp pe slp late srv hv av bd sh sc lt rule now st asl idl idn par div dee o x1 x2 x3 (by first | assumption | omega) (by first | assumption | omega) (by first | assumption | omega) (by first | assumption | omega) (by first | assumption | omega) (by first | assumption | omega) (by first | assumption | omega) (by first | assumption | omega) (by first | assumption | omega) (by first | assumption | omega) (by first | assumption | omega) (by first | assumption | omega) (by first | assumption | omega) htr H.size) (vx_cwSW 5 hts gL_law_L_addClock rfl rfl rfl (by decide +kernel) ⟨Nat.le_of_ble_eq_true rfl, Nat.le_of_ble_eq_true rfl⟩) (zyS hY hX hS hA hK hP hD [0, 1, 2, 3, 4, 5, 6, 7, 8, 9, 10, 11, 12, 13, 14, 15, 16, 17, 18, 19, 20, 21, 22, 23, 24, 25, 26, 27, 28, 49] rfl rfl) rfl rfl hl.1 rfl (lv_room (Nat.le_of_ble_eq_true rfl)) dL_law_392 ⟨hf1, hf6⟩) hP hD hS hA [0, 1, 2, 3, 4, 5, 6, 7, 8, 9, 10, 11, 12, 13, 14, 15, 16, 17, 18, 19, 20, 21, 22, 23, 24, 25, 26, 27, 28, 49] [29, 30, 31, 32, 33, 34, 35, 36, 37, 38, 39, 40, 41, 42, 43, 44, 45, 46, 47, 48] rfl rfl rfl (by decide) (fun vc uc H locs rc hP hD hS => ?_)
  obtain ⟨kv, st_c, sp_c, pe_c, idl_c, idn_c, len_c, cnt_c, cpar_c, fr_c, cdee_c, nC_c, par_c, div_c, dee_c, o_c⟩ := uc
  obtain ⟨wc, rc⟩ := rc
  refine ze_i wc ?_
  have rc : (kv = 0 ∧ (((0 ≤ x1 ∧ x1 < nC) ∧ ((1 ≤ x2 ∧ x2 ≤ 64) ∧ (0 ≤ x3 ∧ x3 ≤ 3)) ∧ nC < 8) ∧ (st_c, sp_c, pe_c, idl_c, idn_c) = scF pw la st asl now sp pe idl idn ∧ idR len_c cnt_c idl_c idn_c) ∧ cpar_c = uZ cpar nC x1 ∧ fr_c = uZ fr nC (fr x1 / x2) ∧ cdee_c = uZ cdee nC x3 ∧ nC_c = nC + 1 ∧ par_c = uZ par nC x1 ∧ div_c = uZ div nC x2 ∧ dee_c = uZ dee nC x3 ∧ o_c = uZ o 0 ((iI (nC)).toInt)) ∨ (kv = 1 ∧ (¬ (0 ≤ x1 ∧ x1 < nC)) ∧ st_c = st ∧ sp_c = sp ∧ pe_c = pe ∧ idl_c = idl ∧ idn_c = idn ∧ len_c = len ∧ cnt_c = cnt ∧ cpar_c = cpar ∧ fr_c = fr ∧ cdee_c = cdee ∧ nC_c = nC ∧ par_c = par ∧ div_c = div ∧ dee_c = dee ∧ o_c = o) ∨ (kv = 2 ∧ ((0 ≤ x1 ∧ x1 < nC) ∧ ¬ ((1 ≤ x2 ∧ x2 ≤ 64) ∧ (0 ≤ x3 ∧ x3 ≤ 3))) ∧ st_c = st ∧ sp_c = sp ∧ pe_c = pe ∧ idl_c = idl ∧ idn_c = idn ∧ len_c = len ∧ cnt_c = cnt ∧ cpar_c = cpar ∧ fr_c = fr ∧ cdee_c = cdee ∧ nC_c = nC ∧ par_c = par ∧ div_c = div ∧ dee_c = dee ∧ o_c = o) ∨ (kv = 3 ∧ ((0 ≤ x1 ∧ x1 < nC) ∧ ((1 ≤ x2 ∧ x2 ≤ 64) ∧ (0 ≤ x3 ∧ x3 ≤ 3)) ∧ ¬ nC < 8) ∧ st_c = st ∧ sp_c = sp ∧ pe_c = pe ∧ idl_c = idl ∧ idn_c = idn ∧ len_c = len ∧ cnt_c = cnt ∧ cpar_c = cpar ∧ fr_c = fr ∧ cdee_c = cdee ∧ nC_c = nC ∧ par_c = par ∧ div_c = div ∧ dee_c = dee ∧ o_c = o) := rc
  have hP : va_P (dC, dI) vwCl (wLW cI cJ cZ q pw co la vo cpar_c fr_c cdee_c use run nC_c tdue tlat twk nT edue elat ewk nE len_c cnt_c tin sp_c pe_c slp late srv hv av bd sh sc lt rule now st_c asl idl_c idn_c par_c div_c dee_c pw co la vo nC par div dee use mrun nT tdue tlat twk nE edue ewk rule now st asl idn idl sp pe tin slp late srv hv av bd sh mL mB thr o_c) H := hP.sub [20, 21, 22, 23, 24, 25, 26, 27, 28, 29, 30, 31, 32, 33, 34, 35, 36, 37, 38, 39, 40, 41, 42, 43, 44, 45, 46, 47, 48, 0, 1, 2, 3, 4, 5, 6, 7, 8, 9, 10, 11, 12, 13, 14, 15, 16, 17, 18, 19, 49] (z_fm rfl)
  have hD : va_D (fun q9 : Nat => s.heap.size ≤ q9) (wLW cI cJ cZ q pw co la vo cpar_c fr_c cdee_c use run nC_c tdue tlat twk nT edue elat ewk nE len_c cnt_c tin sp_c pe_c slp late srv hv av bd sh sc lt rule now st_c asl idl_c idn_c par_c div_c dee_c pw co la vo nC par div dee use mrun nT tdue tlat twk nE edue ewk rule now st asl idn idl sp pe tin slp late srv hv av bd sh mL mB thr o_c) := hD.sub [20, 21, 22, 23, 24, 25, 26, 27, 28, 29, 30, 31, 32, 33, 34, 35, 36, 37, 38, 39, 40, 41, 42, 43, 44, 45, 46, 47, 48, 0, 1, 2, 3, 4, 5, 6, 7, 8, 9, 10, 11, 12, 13, 14, 15, 16, 17, 18, 19, 49] (by decide) rfl
  refine lv_istore (lv' := [(5, .int (iI kv)), (4, .int (iI i9)), (0, .ref b), (1, .ref (q 0)), (2, .ref (q 29)), (3, .ref (q 49))]) hx hb dL_law_395 hl (by decide) rfl (fun ls hl => ?_)
  refine lv_aload_n hx hb dL_law_397 rfl (lv_at hl 4 rfl) ?_
  refine lv_aload_n hx hb dL_law_398 rfl (lv_at hl 2 rfl) ?_
  refine lv_iload hx hb dL_law_399 (lv_at hl 1 rfl) ?_
  refine lv_iconst (v := iI 1) hx hb dL_law_401 rfl ?_
  refine zi_add hx hb dL_law_402 ?_
  refine zs_ld hx hb hXs hbl hbA hS (by omega) hL hv1 dL_law_403 ?_
  refine lv_aload_n hx hb dL_law_404 rfl (lv_at hl 2 rfl) ?_
  refine lv_iload hx hb dL_law_405 (lv_at hl 1 rfl) ?_
  refine lv_iconst (v := iI 2) hx hb dL_law_407 rfl ?_
  refine zi_add hx hb dL_law_408 ?_
  refine zs_ld hx hb hXs hbl hbA hS (by omega) hL hv2 dL_law_409 ?_
  refine lv_aload_n hx hb dL_law_410 rfl (lv_at hl 2 rfl) ?_
  refine lv_iload hx hb dL_law_411 (lv_at hl 1 rfl) ?_
  refine lv_iconst (v := iI 3) hx hb dL_law_413 rfl ?_
  refine zi_add hx hb dL_law_414 ?_
  refine zs_ld hx hb hXs hbl hbA hS (by omega) hL hv3 dL_law_415 ?_
  refine zc_i (va_runV (As := [.int (iI x1), .int (iI x2), .int (iI x3)]) (rest := []) ⟨hx, hb, hml, hown, hts⟩ (kX8_addClock l dC dI cI cJ cZ (fun i => q (i + 29)) pw co la vo nC par div dee use mrun nT tdue tlat twk nE edue ewk rule now st asl idn idl sp pe tin slp late srv hv av bd sh mL mB thr x1 x2 x3 (by first | assumption | omega) (by first | assumption | omega) (by first | assumption | omega) (by first | assumption | omega) (by first | assumption | omega) (by first | assumption | omega) (by first | assumption | omega) (by first | assumption | omega) (by first | assumption | omega) (by first | assumption | omega) H.size) (cwV 3 hts gL_law_X8_addClock rfl rfl rfl (by decide +kernel) ⟨Nat.le_of_ble_eq_true rfl, Nat.le_of_ble_eq_true rfl⟩) (zpV hK hP hD [29, 30, 31, 32, 33, 34, 35, 36, 37, 38, 39, 40, 41, 42, 43, 44, 45, 46, 47, 48] rfl rfl 29 rfl rfl) rfl rfl hl.1 rfl (lv_room (Nat.le_of_ble_eq_true rfl)) dL_law_416 ⟨(by show _ ≤ 1099; omega), (by show _ ≤ 10341; omega)⟩) hP hD hS hA [29, 30, 31, 32, 33, 34, 35, 36, 37, 38, 39, 40, 41, 42, 43, 44, 45, 46, 47, 48] [0, 1, 2, 3, 4, 5, 6, 7, 8, 9, 10, 11, 12, 13, 14, 15, 16, 17, 18, 19, 20, 21, 22, 23, 24, 25, 26, 27, 28, 49] rfl rfl rfl (by decide) (fun vm um H locs rm hP hD hS => ?_)
  obtain ⟨bv, thr_m, st_m, sp_m, pe_m, idl_m, idn_m, par_m, div_m, dee_m, nC_m⟩ := um
  obtain ⟨wm, rm⟩ := rm
  refine ze_i wm ?_
  have rm : ((0 ≤ x1 ∧ x1 < nC) ∧ ((1 ≤ x2 ∧ x2 ≤ 64) ∧ (0 ≤ x3 ∧ x3 ≤ 3)) ∧ (nC < 8) ∧ thr_m = 0 ∧ bv = nC ∧ (st_m, sp_m, pe_m, idl_m, idn_m) = scF pw la st asl now sp pe idl idn ∧ par_m = uZ par nC x1 ∧ div_m = uZ div nC x2 ∧ dee_m = uZ dee nC x3 ∧ nC_m = nC + 1) ∨ (¬ (0 ≤ x1 ∧ x1 < nC) ∧ thr_m = 1 ∧ st_m = st ∧ sp_m = sp ∧ pe_m = pe ∧ idl_m = idl ∧ idn_m = idn ∧ par_m = par ∧ div_m = div ∧ dee_m = dee ∧ nC_m = nC) ∨ ((0 ≤ x1 ∧ x1 < nC) ∧ ¬ ((1 ≤ x2 ∧ x2 ≤ 64) ∧ (0 ≤ x3 ∧ x3 ≤ 3)) ∧ thr_m = 2 ∧ st_m = st ∧ sp_m = sp ∧ pe_m = pe ∧ idl_m = idl ∧ idn_m = idn ∧ par_m = par ∧ div_m = div ∧ dee_m = dee ∧ nC_m = nC) ∨ ((0 ≤ x1 ∧ x1 < nC) ∧ ((1 ≤ x2 ∧ x2 ≤ 64) ∧ (0 ≤ x3 ∧ x3 ≤ 3)) ∧ ¬ (nC < 8) ∧ thr_m = 3 ∧ st_m = st ∧ sp_m = sp ∧ pe_m = pe ∧ idl_m = idl ∧ idn_m = idn ∧ par_m = par ∧ div_m = div ∧ dee_m = dee ∧ nC_m = nC) := rm
  have hP : va_P (dC, dI) vwCl (wLW cI cJ cZ q pw co la vo cpar_c fr_c cdee_c use run nC_c tdue tlat twk nT edue elat ewk nE len_c cnt_c tin sp_c pe_c slp late srv hv av bd sh sc lt rule now st_c asl idl_c idn_c par_c div_c dee_c pw co la vo nC_m par_m div_m dee_m use mrun nT tdue tlat twk nE edue ewk rule now st_m asl idn_m idl_m sp_m pe_m tin slp late srv hv av bd sh mL mB thr_m o_c) H := hP.sub [0, 1, 2, 3, 4, 5, 6, 7, 8, 9, 10, 11, 12, 13, 14, 15, 16, 17, 18, 19, 20, 21, 22, 23, 24, 25, 26, 27, 28, 30, 31, 32, 33, 34, 35, 36, 37, 38, 39, 40, 41, 42, 43, 44, 45, 46, 47, 48, 49, 29] (z_fm rfl)
  have hD : va_D (fun q9 : Nat => s.heap.size ≤ q9) (wLW cI cJ cZ q pw co la vo cpar_c fr_c cdee_c use run nC_c tdue tlat twk nT edue elat ewk nE len_c cnt_c tin sp_c pe_c slp late srv hv av bd sh sc lt rule now st_c asl idl_c idn_c par_c div_c dee_c pw co la vo nC_m par_m div_m dee_m use mrun nT tdue tlat twk nE edue ewk rule now st_m asl idn_m idl_m sp_m pe_m tin slp late srv hv av bd sh mL mB thr_m o_c) := hD.sub [0, 1, 2, 3, 4, 5, 6, 7, 8, 9, 10, 11, 12, 13, 14, 15, 16, 17, 18, 19, 20, 21, 22, 23, 24, 25, 26, 27, 28, 30, 31, 32, 33, 34, 35, 36, 37, 38, 39, 40, 41, 42, 43, 44, 45, 46, 47, 48, 49, 29] (by decide) rfl
  have hlo := lo_addClock (mL := mL) (o := o) hK9 hx1 hx2 hx3 hI rc rm
  obtain ⟨hkt, hk3, ho9, q0, q1, q2, q3, q4, q5, q6, q7, q8, hLI⟩ := hlo
  have hP : va_P (dC, dI) vwCl (wLW cI cJ cZ q pw co la vo cpar_c fr_c cdee_c use run nC_c tdue tlat twk nT edue elat ewk nE len_c cnt_c tin sp_c pe_c slp late srv hv av bd sh sc lt rule now st_c asl idl_c idn_c par_c div_c dee_c pw co la vo nC_c par_c div_c dee_c use mrun nT tdue tlat twk nE edue ewk rule now st_c asl idn_c idl_c sp_c pe_c tin slp late srv hv av bd sh mL mB thr_m o_c) H := by rw [q0, q1, q2, q3, q4, q5, q6, q7, q8] at hP; exact hP
  have hD : va_D (fun q9 : Nat => s.heap.size ≤ q9) (wLW cI cJ cZ q pw co la vo cpar_c fr_c cdee_c use run nC_c tdue tlat twk nT edue elat ewk nE len_c cnt_c tin sp_c pe_c slp late srv hv av bd sh sc lt rule now st_c asl idl_c idn_c par_c div_c dee_c pw co la vo nC_c par_c div_c dee_c use mrun nT tdue tlat twk nE edue ewk rule now st_c asl idn_c idl_c sp_c pe_c tin slp late srv hv av bd sh mL mB thr_m o_c) := by rw [q0, q1, q2, q3, q4, q5, q6, q7, q8] at hD; exact hD
  refine lv_istore (lv' := [(6, .int (iI bv)), (5, .int (iI kv)), (4, .int (iI i9)), (0, .ref b), (1, .ref (q 0)), (2, .ref (q 29)), (3, .ref (q 49))]) hx hb dL_law_419 hl (by decide) rfl (fun ls hl => ?_)
  refine lv_aload_n hx hb dL_law_421 rfl (lv_at hl 5 rfl) ?_
  refine zc_pi (va_runV (As := []) (rest := []) ⟨hx, hb, hml, hown, hts⟩ (kX8_thrown l dC dI cI cJ cZ (fun i => q (i + 29)) pw co la vo nC_c par_c div_c dee_c use mrun nT tdue tlat twk nE edue ewk rule now st_c asl idn_c idl_c sp_c pe_c tin slp late srv hv av bd sh mL mB thr_m ) (cwV 0 hts gL_law_X8_thrown rfl rfl rfl (by decide +kernel) ⟨Nat.le_of_ble_eq_true rfl, Nat.le_of_ble_eq_true rfl⟩) (zqV hK hP [29, 30, 31, 32, 33, 34, 35, 36, 37, 38, 39, 40, 41, 42, 43, 44, 45, 46, 47, 48] rfl 29 rfl rfl) rfl rfl hl.1 rfl (lv_room (Nat.le_of_ble_eq_true rfl)) dL_law_422 ⟨(by show _ ≤ 1099; omega), (by show _ ≤ 10341; omega)⟩) ?_
  refine lv_iload hx hb dL_law_425 (lv_at hl 1 rfl) ?_
  refine zi_same (tgt := 432) hx hb (hkt.symm) dL_law_427 (by decide) ?_
  refine lv_iload hx hb dL_law_432 (lv_at hl 1 rfl) ?_
  refine zi_fne (tgt := 449) hx hb (by omega) dL_law_434 (by decide) (fun hk0 => ?_) (fun hk0 => ?_)
  · skip
    refine lv_goto (tgt := 1502) hx hb dL_law_449 (by decide) ?_
    refine W.widen (k := cells + 1) (n := slots + 6) (by omega) (by omega) ?_
    exact ih pw co la vo cpar_c fr_c cdee_c use run nC_c tdue tlat twk nT edue elat ewk nE len_c cnt_c tin sp_c pe_c slp late srv hv av bd sh sc lt rule now st_c asl idl_c idn_c par_c div_c dee_c mrun mL mB thr_m o_c H locs hLI hP hD hS ls (lv_sub hl [2, 3, 4, 5, 6] rfl)
  refine lv_aload_n hx hb dL_law_437 rfl (lv_at hl 6 rfl) ?_
  refine lv_iconst (v := iI 0) hx hb dL_law_438 rfl ?_
  refine za_lld hx hb hK hP 49 1 rfl rfl (by decide) (by decide) dL_law_439 ?_
  refine lv_iload hx hb dL_law_440 (lv_at hl 0 rfl) ?_
  refine zi_l0 hx hb dL_law_442 ?_
  refine zl_same (tgt := 449) hx hb (ho9 hk0) dL_law_443 dL_law_444 (by decide) ?_
  refine lv_goto (tgt := 1502) hx hb dL_law_449 (by decide) ?_
  refine W.widen (k := cells + 1) (n := slots + 6) (by omega) (by omega) ?_
  exact ih pw co la vo cpar_c fr_c cdee_c use run nC_c tdue tlat twk nT edue elat ewk nE len_c cnt_c tin sp_c pe_c slp late srv hv av bd sh sc lt rule now st_c asl idl_c idn_c par_c div_c dee_c mrun mL mB thr_m o_c H locs hLI hP hD hS ls (lv_sub hl [2, 3, 4, 5, 6] rfl)
set_option maxRecDepth 100000 in
set_option maxHeartbeats 4000000 in
theorem lc_use {p : Program} {l : Launch} {e : Env} {s : State} {m : MethodId} {below : List Frame} {meth : Method} {c : Code} {Q : State → Prop} {dC : Nat → ClassId} {dI : Nat → Nat → Nat} {cI cJ cZ : ClassId} {q : Nat → Nat} {b L : Nat} {xs : Nat → Int32} {i9 K : Int} {cells slots : Nat} {pw : Int → Int} {co : Int → Int} {la : Int → Int} {vo : Int → Int} {cpar : Int → Int} {fr : Int → Int} {cdee : Int → Int} {use : Int → Int} {run : Int → Int} {nC : Int} {tdue : Int → Int} {tlat : Int → Int} {twk : Int → Int} {nT : Int} {edue : Int → Int} {elat : Int → Int} {ewk : Int → Int} {nE : Int} {len : Int → Int} {cnt : Int} {tin : Int → Int} {sp : Int} {pe : Int} {slp : Int} {late : Int} {srv : Int} {hv : Int → Int} {av : Int} {bd : Int} {sh : Int} {sc : Int → Int} {lt : Int → Int} {rule : Int} {now : Int} {st : Int} {asl : Int} {idl : Int → Int} {idn : Int} {par : Int → Int} {div : Int → Int} {dee : Int → Int} {mrun : Int → Int} {mL : Int → Int} {mB : Int → Int} {thr : Int} {o : Int → Int} (hE : lEnv p l s m c dC dI cI cJ cZ b L xs) (hi : 0 ≤ i9 ∧ i9 + 5 ≤ L) (hc : cells + 1 ≤ 1099 ∧ slots + 6 ≤ 10341) (hK9 : 0 ≤ K ∧ K ≤ 110000) (ih : lIh p l e s m below meth c Q dC dI cI cJ cZ q b i9 (K + 200) (cells + 1) (slots + 6)) (hI : LI K pw co la vo cpar fr cdee use run nC tdue tlat twk nT edue elat ewk nE len cnt tin sp pe slp late srv hv av bd sh sc lt rule now st asl idl idn par div dee mrun mB) {H : Heap} {locs : List Loc} (hP : va_P (dC, dI) vwCl (wLW cI cJ cZ q pw co la vo cpar fr cdee use run nC tdue tlat twk nT edue elat ewk nE len cnt tin sp pe slp late srv hv av bd sh sc lt rule now st asl idl idn par div dee pw co la vo nC par div dee use mrun nT tdue tlat twk nE edue ewk rule now st asl idn idl sp pe tin slp late srv hv av bd sh mL mB thr o) H) (hD : va_D (fun q9 : Nat => s.heap.size ≤ q9) (wLW cI cJ cZ q pw co la vo cpar fr cdee use run nC tdue tlat twk nT edue elat ewk nE len cnt tin sp pe slp late srv hv av bd sh sc lt rule now st asl idl idn par div dee pw co la vo nC par div dee use mrun nT tdue tlat twk nE edue ewk rule now st asl idn idl sp pe tin slp late srv hv av bd sh mL mB thr o)) (hS : va_S (fun q9 : Nat => s.heap.size ≤ q9) s.heap H locs) {ls : Array Slot} (hl : lv_has ls 8 [(4, .int (iI i9)), (0, .ref b), (1, .ref (q 0)), (2, .ref (q 29)), (3, .ref (q 49))]) : W p l e room_1 s m #[Value.ref b] below meth c H locs cells slots Q (F0 m 452 ls []) := by
  obtain ⟨hx, hb, hml, hown, hts, htr, hX, hY, hK, hXs, hbl, hL⟩ := hE
  have hA : ∀ q9 : Nat, s.heap.size ≤ q9 → (fun q9 : Nat => s.heap.size ≤ q9) q9 := fun _ h => h
  have hbA : ¬ (fun q9 : Nat => s.heap.size ≤ q9) b := Nat.not_le.mpr hbl
  have hf1 : cells + 1 ≤ room_1.cells := hc.1
  have hf6 : slots + 6 ≤ room_1.slots := hc.2
  obtain ⟨x1, hv1, hx1⟩ := iI_of (xs (iI (i9 + 1)).toNatClampNeg)
  obtain ⟨⟨hpw, hco, hla, hc0, hl0⟩, ⟨hnC, hcp, huse, hrun, hcd, hvo, hpp, hdd, hd0, hde, huz, hfr, hfq, hdv, hmrun⟩, ⟨hrl, hhv, hid, hel⟩, hti, ⟨hsc, hlt, hmB⟩⟩ := id hI
  obtain ⟨hst, hasl, hnowK, hnT, htd, htl, htw, hnE, hed, hew, hpeK, hav, hbd, hk14, hev, hidK, hidl⟩ := id hti
  have hnow : 0 ≤ now ∧ now ≤ 200000 := by omega
  have hidn : 0 ≤ idn ∧ idn ≤ 2000000 := by omega
  have hidn1 : 0 ≤ idn ∧ idn ≤ 1000000 := by omega
  have hpe : 0 ≤ pe ∧ pe ≤ 1000000 := by omega
  have hpar : ∀ c : Int, 1 ≤ c → c < nC → 0 ≤ par c ∧ par c < c := fun c h1 h2 => by rw [hpp c h1 h2]; exact hcp c h1 h2
  have htdl : ∀ k : Int, 0 ≤ k → k < nT → tdue k ≤ tlat k := fun k h1 h2 => (hk14 k h1 h2).2
  have htnl : ∀ k : Int, 0 ≤ k → k < nT → now ≤ tlat k := fun k h1 h2 => (hk14 k h1 h2).1
  have htk : ∃ K : Int, K ≤ 190000 ∧ tiB K st asl now nT tdue tlat twk nE edue ewk sp pe tin slp late srv av bd sh idl idn := ⟨K, by omega, hti⟩
  refine lv_aload_n hx hb dL_law_452 rfl (lv_at hl 2 rfl) ?_
  refine lv_aload_n hx hb dL_law_453 rfl (lv_at hl 1 rfl) ?_
  refine lv_iload hx hb dL_law_454 (lv_at hl 0 rfl) ?_
  refine lv_iconst (v := iI 1) hx hb dL_law_456 rfl ?_
  refine zi_add hx hb dL_law_457 ?_
  refine zs_ld hx hb hXs hbl hbA hS (by omega) hL hv1 dL_law_458 ?_
  refine lv_aload_n hx hb dL_law_459 rfl (lv_at hl 4 rfl) ?_
  refine zc_i (vx_runSW (As := [.ref (q 0), .int (iI x1), .ref (q 49)]) (rest := []) ⟨hx, hb, hml, hown, hts⟩ (kL_use l dC dI cI cJ cZ q pw co la vo cpar fr cdee use run nC tdue tlat twk nT edue elat ewk nE len cnt tin sp pe slp late srv hv av bd sh sc lt rule now st asl idl idn par div dee o x1 (by first | assumption | omega) (by first | assumption | omega) (by first | assumption | omega) (by first | assumption | omega) (by first | assumption | omega) (by first | assumption | omega) (by first | assumption | omega) (by first | assumption | omega) (by first | assumption | omega) (by first | assumption | omega) htr H.size) (vx_cwSW 3 hts gL_law_L_use rfl rfl rfl (by decide +kernel) ⟨Nat.le_of_ble_eq_true rfl, Nat.le_of_ble_eq_true rfl⟩) (zyS hY hX hS hA hK hP hD [0, 1, 2, 3, 4, 5, 6, 7, 8, 9, 10, 11, 12, 13, 14, 15, 16, 17, 18, 19, 20, 21, 22, 23, 24, 25, 26, 27, 28, 49] rfl rfl) rfl rfl hl.1 rfl (lv_room (Nat.le_of_ble_eq_true rfl)) dL_law_460 ⟨hf1, hf6⟩) hP hD hS hA [0, 1, 2, 3, 4, 5, 6, 7, 8, 9, 10, 11, 12, 13, 14, 15, 16, 17, 18, 19, 20, 21, 22, 23, 24, 25, 26, 27, 28, 49] [29, 30, 31, 32, 33, 34, 35, 36, 37, 38, 39, 40, 41, 42, 43, 44, 45, 46, 47, 48] rfl rfl rfl (by decide) (fun vc uc H locs rc hP hD hS => ?_)
  obtain ⟨kv, st_c, sp_c, pe_c, idl_c, idn_c, len_c, cnt_c, use_c, o_c⟩ := uc
  obtain ⟨wc, rc⟩ := rc
  refine ze_i wc ?_
  have rc : (kv = 0 ∧ (((0 ≤ x1 ∧ x1 < nC) ∧ use x1 < 9) ∧ (st_c, sp_c, pe_c, idl_c, idn_c) = scF pw la st asl now sp pe idl idn ∧ idR len_c cnt_c idl_c idn_c) ∧ use_c = uZ use x1 (use x1 + 1) ∧ o_c = uZ o 0 ((iI (use x1 + 1)).toInt)) ∨ (kv = 1 ∧ (¬ (0 ≤ x1 ∧ x1 < nC)) ∧ st_c = st ∧ sp_c = sp ∧ pe_c = pe ∧ idl_c = idl ∧ idn_c = idn ∧ len_c = len ∧ cnt_c = cnt ∧ use_c = use ∧ o_c = o) ∨ (kv = 2 ∧ ((0 ≤ x1 ∧ x1 < nC) ∧ ¬ use x1 < 9) ∧ st_c = st ∧ sp_c = sp ∧ pe_c = pe ∧ idl_c = idl ∧ idn_c = idn ∧ len_c = len ∧ cnt_c = cnt ∧ use_c = use ∧ o_c = o) := rc
  have hP : va_P (dC, dI) vwCl (wLW cI cJ cZ q pw co la vo cpar fr cdee use_c run nC tdue tlat twk nT edue elat ewk nE len_c cnt_c tin sp_c pe_c slp late srv hv av bd sh sc lt rule now st_c asl idl_c idn_c par div dee pw co la vo nC par div dee use mrun nT tdue tlat twk nE edue ewk rule now st asl idn idl sp pe tin slp late srv hv av bd sh mL mB thr o_c) H := hP.sub [20, 21, 22, 23, 24, 25, 26, 27, 28, 29, 30, 31, 32, 33, 34, 35, 36, 37, 38, 39, 40, 41, 42, 43, 44, 45, 46, 47, 48, 0, 1, 2, 3, 4, 5, 6, 7, 8, 9, 10, 11, 12, 13, 14, 15, 16, 17, 18, 19, 49] (z_fm rfl)
  have hD : va_D (fun q9 : Nat => s.heap.size ≤ q9) (wLW cI cJ cZ q pw co la vo cpar fr cdee use_c run nC tdue tlat twk nT edue elat ewk nE len_c cnt_c tin sp_c pe_c slp late srv hv av bd sh sc lt rule now st_c asl idl_c idn_c par div dee pw co la vo nC par div dee use mrun nT tdue tlat twk nE edue ewk rule now st asl idn idl sp pe tin slp late srv hv av bd sh mL mB thr o_c) := hD.sub [20, 21, 22, 23, 24, 25, 26, 27, 28, 29, 30, 31, 32, 33, 34, 35, 36, 37, 38, 39, 40, 41, 42, 43, 44, 45, 46, 47, 48, 0, 1, 2, 3, 4, 5, 6, 7, 8, 9, 10, 11, 12, 13, 14, 15, 16, 17, 18, 19, 49] (by decide) rfl
  refine lv_istore (lv' := [(5, .int (iI kv)), (4, .int (iI i9)), (0, .ref b), (1, .ref (q 0)), (2, .ref (q 29)), (3, .ref (q 49))]) hx hb dL_law_463 hl (by decide) rfl (fun ls hl => ?_)
  refine lv_aload_n hx hb dL_law_465 rfl (lv_at hl 4 rfl) ?_
  refine lv_aload_n hx hb dL_law_466 rfl (lv_at hl 2 rfl) ?_
  refine lv_iload hx hb dL_law_467 (lv_at hl 1 rfl) ?_
  refine lv_iconst (v := iI 1) hx hb dL_law_469 rfl ?_
  refine zi_add hx hb dL_law_470 ?_
  refine zs_ld hx hb hXs hbl hbA hS (by omega) hL hv1 dL_law_471 ?_
  refine zc_i (va_runV (As := [.int (iI x1)]) (rest := []) ⟨hx, hb, hml, hown, hts⟩ (kX8_use l dC dI cI cJ cZ (fun i => q (i + 29)) pw co la vo nC par div dee use mrun nT tdue tlat twk nE edue ewk rule now st asl idn idl sp pe tin slp late srv hv av bd sh mL mB thr x1 (by first | assumption | omega) (by first | assumption | omega) (by first | assumption | omega) (by first | assumption | omega) (by first | assumption | omega) (by first | assumption | omega) (by first | assumption | omega) (by first | assumption | omega) (by first | assumption | omega) H.size) (cwV 1 hts gL_law_X8_use rfl rfl rfl (by decide +kernel) ⟨Nat.le_of_ble_eq_true rfl, Nat.le_of_ble_eq_true rfl⟩) (zpV hK hP hD [29, 30, 31, 32, 33, 34, 35, 36, 37, 38, 39, 40, 41, 42, 43, 44, 45, 46, 47, 48] rfl rfl 29 rfl rfl) rfl rfl hl.1 rfl (lv_room (Nat.le_of_ble_eq_true rfl)) dL_law_472 ⟨(by show _ ≤ 1099; omega), (by show _ ≤ 10341; omega)⟩) hP hD hS hA [29, 30, 31, 32, 33, 34, 35, 36, 37, 38, 39, 40, 41, 42, 43, 44, 45, 46, 47, 48] [0, 1, 2, 3, 4, 5, 6, 7, 8, 9, 10, 11, 12, 13, 14, 15, 16, 17, 18, 19, 20, 21, 22, 23, 24, 25, 26, 27, 28, 49] rfl rfl rfl (by decide) (fun vm um H locs rm hP hD hS => ?_)
  obtain ⟨bv, thr_m, st_m, sp_m, pe_m, idl_m, idn_m, use_m⟩ := um
  obtain ⟨wm, rm⟩ := rm
  refine ze_i wm ?_
  have rm : ((0 ≤ x1 ∧ x1 < nC) ∧ (use x1 < 9) ∧ thr_m = 0 ∧ bv = use x1 + 1 ∧ (st_m, sp_m, pe_m, idl_m, idn_m) = scF pw la st asl now sp pe idl idn ∧ use_m = uZ use x1 (use x1 + 1)) ∨ (¬ (0 ≤ x1 ∧ x1 < nC) ∧ thr_m = 1 ∧ st_m = st ∧ sp_m = sp ∧ pe_m = pe ∧ idl_m = idl ∧ idn_m = idn ∧ use_m = use) ∨ ((0 ≤ x1 ∧ x1 < nC) ∧ ¬ (use x1 < 9) ∧ thr_m = 2 ∧ st_m = st ∧ sp_m = sp ∧ pe_m = pe ∧ idl_m = idl ∧ idn_m = idn ∧ use_m = use) := rm
  have hP : va_P (dC, dI) vwCl (wLW cI cJ cZ q pw co la vo cpar fr cdee use_c run nC tdue tlat twk nT edue elat ewk nE len_c cnt_c tin sp_c pe_c slp late srv hv av bd sh sc lt rule now st_c asl idl_c idn_c par div dee pw co la vo nC par div dee use_m mrun nT tdue tlat twk nE edue ewk rule now st_m asl idn_m idl_m sp_m pe_m tin slp late srv hv av bd sh mL mB thr_m o_c) H := hP.sub [0, 1, 2, 3, 4, 5, 6, 7, 8, 9, 10, 11, 12, 13, 14, 15, 16, 17, 18, 19, 20, 21, 22, 23, 24, 25, 26, 27, 28, 30, 31, 32, 33, 34, 35, 36, 37, 38, 39, 40, 41, 42, 43, 44, 45, 46, 47, 48, 49, 29] (z_fm rfl)
  have hD : va_D (fun q9 : Nat => s.heap.size ≤ q9) (wLW cI cJ cZ q pw co la vo cpar fr cdee use_c run nC tdue tlat twk nT edue elat ewk nE len_c cnt_c tin sp_c pe_c slp late srv hv av bd sh sc lt rule now st_c asl idl_c idn_c par div dee pw co la vo nC par div dee use_m mrun nT tdue tlat twk nE edue ewk rule now st_m asl idn_m idl_m sp_m pe_m tin slp late srv hv av bd sh mL mB thr_m o_c) := hD.sub [0, 1, 2, 3, 4, 5, 6, 7, 8, 9, 10, 11, 12, 13, 14, 15, 16, 17, 18, 19, 20, 21, 22, 23, 24, 25, 26, 27, 28, 30, 31, 32, 33, 34, 35, 36, 37, 38, 39, 40, 41, 42, 43, 44, 45, 46, 47, 48, 49, 29] (by decide) rfl
  have hlo := lo_use (mL := mL) (o := o) hK9 hx1 hI rc rm
  obtain ⟨hkt, hk3, ho9, q0, q1, q2, q3, q4, q5, hLI⟩ := hlo
  have hP : va_P (dC, dI) vwCl (wLW cI cJ cZ q pw co la vo cpar fr cdee use_c run nC tdue tlat twk nT edue elat ewk nE len_c cnt_c tin sp_c pe_c slp late srv hv av bd sh sc lt rule now st_c asl idl_c idn_c par div dee pw co la vo nC par div dee use_c mrun nT tdue tlat twk nE edue ewk rule now st_c asl idn_c idl_c sp_c pe_c tin slp late srv hv av bd sh mL mB thr_m o_c) H := by rw [q0, q1, q2, q3, q4, q5] at hP; exact hP
  have hD : va_D (fun q9 : Nat => s.heap.size ≤ q9) (wLW cI cJ cZ q pw co la vo cpar fr cdee use_c run nC tdue tlat twk nT edue elat ewk nE len_c cnt_c tin sp_c pe_c slp late srv hv av bd sh sc lt rule now st_c asl idl_c idn_c par div dee pw co la vo nC par div dee use_c mrun nT tdue tlat twk nE edue ewk rule now st_c asl idn_c idl_c sp_c pe_c tin slp late srv hv av bd sh mL mB thr_m o_c) := by rw [q0, q1, q2, q3, q4, q5] at hD; exact hD
  refine lv_istore (lv' := [(6, .int (iI bv)), (5, .int (iI kv)), (4, .int (iI i9)), (0, .ref b), (1, .ref (q 0)), (2, .ref (q 29)), (3, .ref (q 49))]) hx hb dL_law_475 hl (by decide) rfl (fun ls hl => ?_)
  refine lv_aload_n hx hb dL_law_477 rfl (lv_at hl 5 rfl) ?_
  refine zc_pi (va_runV (As := []) (rest := []) ⟨hx, hb, hml, hown, hts⟩ (kX8_thrown l dC dI cI cJ cZ (fun i => q (i + 29)) pw co la vo nC par div dee use_c mrun nT tdue tlat twk nE edue ewk rule now st_c asl idn_c idl_c sp_c pe_c tin slp late srv hv av bd sh mL mB thr_m ) (cwV 0 hts gL_law_X8_thrown rfl rfl rfl (by decide +kernel) ⟨Nat.le_of_ble_eq_true rfl, Nat.le_of_ble_eq_true rfl⟩) (zqV hK hP [29, 30, 31, 32, 33, 34, 35, 36, 37, 38, 39, 40, 41, 42, 43, 44, 45, 46, 47, 48] rfl 29 rfl rfl) rfl rfl hl.1 rfl (lv_room (Nat.le_of_ble_eq_true rfl)) dL_law_478 ⟨(by show _ ≤ 1099; omega), (by show _ ≤ 10341; omega)⟩) ?_
  refine lv_iload hx hb dL_law_481 (lv_at hl 1 rfl) ?_
  refine zi_same (tgt := 488) hx hb (hkt.symm) dL_law_483 (by decide) ?_
  refine lv_iload hx hb dL_law_488 (lv_at hl 1 rfl) ?_
  refine zi_fne (tgt := 505) hx hb (by omega) dL_law_490 (by decide) (fun hk0 => ?_) (fun hk0 => ?_)
  · skip
    refine lv_goto (tgt := 1502) hx hb dL_law_505 (by decide) ?_
    refine W.widen (k := cells + 1) (n := slots + 6) (by omega) (by omega) ?_
    exact ih pw co la vo cpar fr cdee use_c run nC tdue tlat twk nT edue elat ewk nE len_c cnt_c tin sp_c pe_c slp late srv hv av bd sh sc lt rule now st_c asl idl_c idn_c par div dee mrun mL mB thr_m o_c H locs hLI hP hD hS ls (lv_sub hl [2, 3, 4, 5, 6] rfl)
  refine lv_aload_n hx hb dL_law_493 rfl (lv_at hl 6 rfl) ?_
  refine lv_iconst (v := iI 0) hx hb dL_law_494 rfl ?_
  refine za_lld hx hb hK hP 49 1 rfl rfl (by decide) (by decide) dL_law_495 ?_
  refine lv_iload hx hb dL_law_496 (lv_at hl 0 rfl) ?_
  refine zi_l0 hx hb dL_law_498 ?_
  refine zl_same (tgt := 505) hx hb (ho9 hk0) dL_law_499 dL_law_500 (by decide) ?_
  refine lv_goto (tgt := 1502) hx hb dL_law_505 (by decide) ?_
  refine W.widen (k := cells + 1) (n := slots + 6) (by omega) (by omega) ?_
  exact ih pw co la vo cpar fr cdee use_c run nC tdue tlat twk nT edue elat ewk nE len_c cnt_c tin sp_c pe_c slp late srv hv av bd sh sc lt rule now st_c asl idl_c idn_c par div dee mrun mL mB thr_m o_c H locs hLI hP hD hS ls (lv_sub hl [2, 3, 4, 5, 6] rfl)
set_option maxRecDepth 100000 in
set_option maxHeartbeats 4000000 in
theorem lc_release {p : Program} {l : Launch} {e : Env} {s : State} {m : MethodId} {below : List Frame} {meth : Method} {c : Code} {Q : State → Prop} {dC : Nat → ClassId} {dI : Nat → Nat → Nat} {cI cJ cZ : ClassId} {q : Nat → Nat} {b L : Nat} {xs : Nat → Int32} {i9 K : Int} {cells slots : Nat} {pw : Int → Int} {co : Int → Int} {la : Int → Int} {vo : Int → Int} {cpar : Int → Int} {fr : Int → Int} {cdee : Int → Int} {use : Int → Int} {run : Int → Int} {nC : Int} {tdue : Int → Int} {tlat : Int → Int} {twk : Int → Int} {nT : Int} {edue : Int → Int} {elat : Int → Int} {ewk : Int → Int} {nE : Int} {len : Int → Int} {cnt : Int} {tin : Int → Int} {sp : Int} {pe : Int} {slp : Int} {late : Int} {srv : Int} {hv : Int → Int} {av : Int} {bd : Int} {sh : Int} {sc : Int → Int} {lt : Int → Int} {rule : Int} {now : Int} {st : Int} {asl : Int} {idl : Int → Int} {idn : Int} {par : Int → Int} {div : Int → Int} {dee : Int → Int} {mrun : Int → Int} {mL : Int → Int} {mB : Int → Int} {thr : Int} {o : Int → Int} (hE : lEnv p l s m c dC dI cI cJ cZ b L xs) (hi : 0 ≤ i9 ∧ i9 + 5 ≤ L) (hc : cells + 1 ≤ 1099 ∧ slots + 6 ≤ 10341) (hK9 : 0 ≤ K ∧ K ≤ 110000) (ih : lIh p l e s m below meth c Q dC dI cI cJ cZ q b i9 (K + 200) (cells + 1) (slots + 6)) (hI : LI K pw co la vo cpar fr cdee use run nC tdue tlat twk nT edue elat ewk nE len cnt tin sp pe slp late srv hv av bd sh sc lt rule now st asl idl idn par div dee mrun mB) {H : Heap} {locs : List Loc} (hP : va_P (dC, dI) vwCl (wLW cI cJ cZ q pw co la vo cpar fr cdee use run nC tdue tlat twk nT edue elat ewk nE len cnt tin sp pe slp late srv hv av bd sh sc lt rule now st asl idl idn par div dee pw co la vo nC par div dee use mrun nT tdue tlat twk nE edue ewk rule now st asl idn idl sp pe tin slp late srv hv av bd sh mL mB thr o) H) (hD : va_D (fun q9 : Nat => s.heap.size ≤ q9) (wLW cI cJ cZ q pw co la vo cpar fr cdee use run nC tdue tlat twk nT edue elat ewk nE len cnt tin sp pe slp late srv hv av bd sh sc lt rule now st asl idl idn par div dee pw co la vo nC par div dee use mrun nT tdue tlat twk nE edue ewk rule now st asl idn idl sp pe tin slp late srv hv av bd sh mL mB thr o)) (hS : va_S (fun q9 : Nat => s.heap.size ≤ q9) s.heap H locs) {ls : Array Slot} (hl : lv_has ls 8 [(4, .int (iI i9)), (0, .ref b), (1, .ref (q 0)), (2, .ref (q 29)), (3, .ref (q 49))]) : W p l e room_1 s m #[Value.ref b] below meth c H locs cells slots Q (F0 m 508 ls []) := by
  obtain ⟨hx, hb, hml, hown, hts, htr, hX, hY, hK, hXs, hbl, hL⟩ := hE
  have hA : ∀ q9 : Nat, s.heap.size ≤ q9 → (fun q9 : Nat => s.heap.size ≤ q9) q9 := fun _ h => h
  have hbA : ¬ (fun q9 : Nat => s.heap.size ≤ q9) b := Nat.not_le.mpr hbl
  have hf1 : cells + 1 ≤ room_1.cells := hc.1
  have hf6 : slots + 6 ≤ room_1.slots := hc.2
  obtain ⟨x1, hv1, hx1⟩ := iI_of (xs (iI (i9 + 1)).toNatClampNeg)
  obtain ⟨⟨hpw, hco, hla, hc0, hl0⟩, ⟨hnC, hcp, huse, hrun, hcd, hvo, hpp, hdd, hd0, hde, huz, hfr, hfq, hdv, hmrun⟩, ⟨hrl, hhv, hid, hel⟩, hti, ⟨hsc, hlt, hmB⟩⟩ := id hI
  obtain ⟨hst, hasl, hnowK, hnT, htd, htl, htw, hnE, hed, hew, hpeK, hav, hbd, hk14, hev, hidK, hidl⟩ := id hti
  have hnow : 0 ≤ now ∧ now ≤ 200000 := by omega
  have hidn : 0 ≤ idn ∧ idn ≤ 2000000 := by omega
  have hidn1 : 0 ≤ idn ∧ idn ≤ 1000000 := by omega
  have hpe : 0 ≤ pe ∧ pe ≤ 1000000 := by omega
  have hpar : ∀ c : Int, 1 ≤ c → c < nC → 0 ≤ par c ∧ par c < c := fun c h1 h2 => by rw [hpp c h1 h2]; exact hcp c h1 h2
  have htdl : ∀ k : Int, 0 ≤ k → k < nT → tdue k ≤ tlat k := fun k h1 h2 => (hk14 k h1 h2).2
  have htnl : ∀ k : Int, 0 ≤ k → k < nT → now ≤ tlat k := fun k h1 h2 => (hk14 k h1 h2).1
  have htk : ∃ K : Int, K ≤ 190000 ∧ tiB K st asl now nT tdue tlat twk nE edue ewk sp pe tin slp late srv av bd sh idl idn := ⟨K, by omega, hti⟩
  refine lv_aload_n hx hb dL_law_508 rfl (lv_at hl 2 rfl) ?_
  refine lv_aload_n hx hb dL_law_509 rfl (lv_at hl 1 rfl) ?_
  refine lv_iload hx hb dL_law_510 (lv_at hl 0 rfl) ?_
  refine lv_iconst (v := iI 1) hx hb dL_law_512 rfl ?_
  refine zi_add hx hb dL_law_513 ?_
  refine zs_ld hx hb hXs hbl hbA hS (by omega) hL hv1 dL_law_514 ?_
  refine lv_aload_n hx hb dL_law_515 rfl (lv_at hl 4 rfl) ?_
  refine zc_i (vx_runSW (As := [.ref (q 0), .int (iI x1), .ref (q 49)]) (rest := []) ⟨hx, hb, hml, hown, hts⟩ (kL_release l dC dI cI cJ cZ q pw co la vo cpar fr cdee use run nC tdue tlat twk nT edue elat ewk nE len cnt tin sp pe slp late srv hv av bd sh sc lt rule now st asl idl idn par div dee o x1 (by first | assumption | omega) (by first | assumption | omega) (by first | assumption | omega) (by first | assumption | omega) (by first | assumption | omega) (by first | assumption | omega) (by first | assumption | omega) (by first | assumption | omega) (by first | assumption | omega) (by first | assumption | omega) htr H.size) (vx_cwSW 3 hts gL_law_L_release rfl rfl rfl (by decide +kernel) ⟨Nat.le_of_ble_eq_true rfl, Nat.le_of_ble_eq_true rfl⟩) (zyS hY hX hS hA hK hP hD [0, 1, 2, 3, 4, 5, 6, 7, 8, 9, 10, 11, 12, 13, 14, 15, 16, 17, 18, 19, 20, 21, 22, 23, 24, 25, 26, 27, 28, 49] rfl rfl) rfl rfl hl.1 rfl (lv_room (Nat.le_of_ble_eq_true rfl)) dL_law_516 ⟨hf1, hf6⟩) hP hD hS hA [0, 1, 2, 3, 4, 5, 6, 7, 8, 9, 10, 11, 12, 13, 14, 15, 16, 17, 18, 19, 20, 21, 22, 23, 24, 25, 26, 27, 28, 49] [29, 30, 31, 32, 33, 34, 35, 36, 37, 38, 39, 40, 41, 42, 43, 44, 45, 46, 47, 48] rfl rfl rfl (by decide) (fun vc uc H locs rc hP hD hS => ?_)
  obtain ⟨kv, st_c, sp_c, pe_c, idl_c, idn_c, len_c, cnt_c, use_c, o_c⟩ := uc
  obtain ⟨wc, rc⟩ := rc
  refine ze_i wc ?_
  have rc : (kv = 0 ∧ (((0 ≤ x1 ∧ x1 < nC) ∧ 0 < use x1) ∧ (st_c, sp_c, pe_c, idl_c, idn_c) = scF pw la st asl now sp pe idl idn ∧ idR len_c cnt_c idl_c idn_c) ∧ use_c = uZ use x1 (use x1 - 1) ∧ o_c = uZ o 0 ((iI (use x1 - 1)).toInt)) ∨ (kv = 1 ∧ (¬ (0 ≤ x1 ∧ x1 < nC)) ∧ st_c = st ∧ sp_c = sp ∧ pe_c = pe ∧ idl_c = idl ∧ idn_c = idn ∧ len_c = len ∧ cnt_c = cnt ∧ use_c = use ∧ o_c = o) ∨ (kv = 2 ∧ ((0 ≤ x1 ∧ x1 < nC) ∧ ¬ 0 < use x1) ∧ st_c = st ∧ sp_c = sp ∧ pe_c = pe ∧ idl_c = idl ∧ idn_c = idn ∧ len_c = len ∧ cnt_c = cnt ∧ use_c = use ∧ o_c = o) := rc
  have hP : va_P (dC, dI) vwCl (wLW cI cJ cZ q pw co la vo cpar fr cdee use_c run nC tdue tlat twk nT edue elat ewk nE len_c cnt_c tin sp_c pe_c slp late srv hv av bd sh sc lt rule now st_c asl idl_c idn_c par div dee pw co la vo nC par div dee use mrun nT tdue tlat twk nE edue ewk rule now st asl idn idl sp pe tin slp late srv hv av bd sh mL mB thr o_c) H := hP.sub [20, 21, 22, 23, 24, 25, 26, 27, 28, 29, 30, 31, 32, 33, 34, 35, 36, 37, 38, 39, 40, 41, 42, 43, 44, 45, 46, 47, 48, 0, 1, 2, 3, 4, 5, 6, 7, 8, 9, 10, 11, 12, 13, 14, 15, 16, 17, 18, 19, 49] (z_fm rfl)
  have hD : va_D (fun q9 : Nat => s.heap.size ≤ q9) (wLW cI cJ cZ q pw co la vo cpar fr cdee use_c run nC tdue tlat twk nT edue elat ewk nE len_c cnt_c tin sp_c pe_c slp late srv hv av bd sh sc lt rule now st_c asl idl_c idn_c par div dee pw co la vo nC par div dee use mrun nT tdue tlat twk nE edue ewk rule now st asl idn idl sp pe tin slp late srv hv av bd sh mL mB thr o_c) := hD.sub [20, 21, 22, 23, 24, 25, 26, 27, 28, 29, 30, 31, 32, 33, 34, 35, 36, 37, 38, 39, 40, 41, 42, 43, 44, 45, 46, 47, 48, 0, 1, 2, 3, 4, 5, 6, 7, 8, 9, 10, 11, 12, 13, 14, 15, 16, 17, 18, 19, 49] (by decide) rfl
  refine lv_istore (lv' := [(5, .int (iI kv)), (4, .int (iI i9)), (0, .ref b), (1, .ref (q 0)), (2, .ref (q 29)), (3, .ref (q 49))]) hx hb dL_law_519 hl (by decide) rfl (fun ls hl => ?_)
  refine lv_aload_n hx hb dL_law_521 rfl (lv_at hl 4 rfl) ?_
  refine lv_aload_n hx hb dL_law_522 rfl (lv_at hl 2 rfl) ?_
  refine lv_iload hx hb dL_law_523 (lv_at hl 1 rfl) ?_
  refine lv_iconst (v := iI 1) hx hb dL_law_525 rfl ?_
  refine zi_add hx hb dL_law_526 ?_
  refine zs_ld hx hb hXs hbl hbA hS (by omega) hL hv1 dL_law_527 ?_
  refine zc_i (va_runV (As := [.int (iI x1)]) (rest := []) ⟨hx, hb, hml, hown, hts⟩ (kX8_release l dC dI cI cJ cZ (fun i => q (i + 29)) pw co la vo nC par div dee use mrun nT tdue tlat twk nE edue ewk rule now st asl idn idl sp pe tin slp late srv hv av bd sh mL mB thr x1 (by first | assumption | omega) (by first | assumption | omega) (by first | assumption | omega) (by first | assumption | omega) (by first | assumption | omega) (by first | assumption | omega) (by first | assumption | omega) (by first | assumption | omega) (by first | assumption | omega) H.size) (cwV 1 hts gL_law_X8_release rfl rfl rfl (by decide +kernel) ⟨Nat.le_of_ble_eq_true rfl, Nat.le_of_ble_eq_true rfl⟩) (zpV hK hP hD [29, 30, 31, 32, 33, 34, 35, 36, 37, 38, 39, 40, 41, 42, 43, 44, 45, 46, 47, 48] rfl rfl 29 rfl rfl) rfl rfl hl.1 rfl (lv_room (Nat.le_of_ble_eq_true rfl)) dL_law_528 ⟨(by show _ ≤ 1099; omega), (by show _ ≤ 10341; omega)⟩) hP hD hS hA [29, 30, 31, 32, 33, 34, 35, 36, 37, 38, 39, 40, 41, 42, 43, 44, 45, 46, 47, 48] [0, 1, 2, 3, 4, 5, 6, 7, 8, 9, 10, 11, 12, 13, 14, 15, 16, 17, 18, 19, 20, 21, 22, 23, 24, 25, 26, 27, 28, 49] rfl rfl rfl (by decide) (fun vm um H locs rm hP hD hS => ?_)
  obtain ⟨bv, thr_m, st_m, sp_m, pe_m, idl_m, idn_m, use_m⟩ := um
  obtain ⟨wm, rm⟩ := rm
  refine ze_i wm ?_
  have rm : ((0 ≤ x1 ∧ x1 < nC) ∧ (0 < use x1) ∧ thr_m = 0 ∧ bv = use x1 - 1 ∧ (st_m, sp_m, pe_m, idl_m, idn_m) = scF pw la st asl now sp pe idl idn ∧ use_m = uZ use x1 (use x1 - 1)) ∨ (¬ (0 ≤ x1 ∧ x1 < nC) ∧ thr_m = 1 ∧ st_m = st ∧ sp_m = sp ∧ pe_m = pe ∧ idl_m = idl ∧ idn_m = idn ∧ use_m = use) ∨ ((0 ≤ x1 ∧ x1 < nC) ∧ ¬ (0 < use x1) ∧ thr_m = 2 ∧ st_m = st ∧ sp_m = sp ∧ pe_m = pe ∧ idl_m = idl ∧ idn_m = idn ∧ use_m = use) := rm
  have hP : va_P (dC, dI) vwCl (wLW cI cJ cZ q pw co la vo cpar fr cdee use_c run nC tdue tlat twk nT edue elat ewk nE len_c cnt_c tin sp_c pe_c slp late srv hv av bd sh sc lt rule now st_c asl idl_c idn_c par div dee pw co la vo nC par div dee use_m mrun nT tdue tlat twk nE edue ewk rule now st_m asl idn_m idl_m sp_m pe_m tin slp late srv hv av bd sh mL mB thr_m o_c) H := hP.sub [0, 1, 2, 3, 4, 5, 6, 7, 8, 9, 10, 11, 12, 13, 14, 15, 16, 17, 18, 19, 20, 21, 22, 23, 24, 25, 26, 27, 28, 30, 31, 32, 33, 34, 35, 36, 37, 38, 39, 40, 41, 42, 43, 44, 45, 46, 47, 48, 49, 29] (z_fm rfl)
  have hD : va_D (fun q9 : Nat => s.heap.size ≤ q9) (wLW cI cJ cZ q pw co la vo cpar fr cdee use_c run nC tdue tlat twk nT edue elat ewk nE len_c cnt_c tin sp_c pe_c slp late srv hv av bd sh sc lt rule now st_c asl idl_c idn_c par div dee pw co la vo nC par div dee use_m mrun nT tdue tlat twk nE edue ewk rule now st_m asl idn_m idl_m sp_m pe_m tin slp late srv hv av bd sh mL mB thr_m o_c) := hD.sub [0, 1, 2, 3, 4, 5, 6, 7, 8, 9, 10, 11, 12, 13, 14, 15, 16, 17, 18, 19, 20, 21, 22, 23, 24, 25, 26, 27, 28, 30, 31, 32, 33, 34, 35, 36, 37, 38, 39, 40, 41, 42, 43, 44, 45, 46, 47, 48, 49, 29] (by decide) rfl
  have hlo := lo_release (mL := mL) (o := o) hK9 hx1 hI rc rm
  obtain ⟨hkt, hk3, ho9, q0, q1, q2, q3, q4, q5, hLI⟩ := hlo
  have hP : va_P (dC, dI) vwCl (wLW cI cJ cZ q pw co la vo cpar fr cdee use_c run nC tdue tlat twk nT edue elat ewk nE len_c cnt_c tin sp_c pe_c slp late srv hv av bd sh sc lt rule now st_c asl idl_c idn_c par div dee pw co la vo nC par div dee use_c mrun nT tdue tlat twk nE edue ewk rule now st_c asl idn_c idl_c sp_c pe_c tin slp late srv hv av bd sh mL mB thr_m o_c) H := by rw [q0, q1, q2, q3, q4, q5] at hP; exact hP
  have hD : va_D (fun q9 : Nat => s.heap.size ≤ q9) (wLW cI cJ cZ q pw co la vo cpar fr cdee use_c run nC tdue tlat twk nT edue elat ewk nE len_c cnt_c tin sp_c pe_c slp late srv hv av bd sh sc lt rule now st_c asl idl_c idn_c par div dee pw co la vo nC par div dee use_c mrun nT tdue tlat twk nE edue ewk rule now st_c asl idn_c idl_c sp_c pe_c tin slp late srv hv av bd sh mL mB thr_m o_c) := by rw [q0, q1, q2, q3, q4, q5] at hD; exact hD
  refine lv_istore (lv' := [(6, .int (iI bv)), (5, .int (iI kv)), (4, .int (iI i9)), (0, .ref b), (1, .ref (q 0)), (2, .ref (q 29)), (3, .ref (q 49))]) hx hb dL_law_531 hl (by decide) rfl (fun ls hl => ?_)
  refine lv_aload_n hx hb dL_law_533 rfl (lv_at hl 5 rfl) ?_
  refine zc_pi (va_runV (As := []) (rest := []) ⟨hx, hb, hml, hown, hts⟩ (kX8_thrown l dC dI cI cJ cZ (fun i => q (i + 29)) pw co la vo nC par div dee use_c mrun nT tdue tlat twk nE edue ewk rule now st_c asl idn_c idl_c sp_c pe_c tin slp late srv hv av bd sh mL mB thr_m ) (cwV 0 hts gL_law_X8_thrown rfl rfl rfl (by decide +kernel) ⟨Nat.le_of_ble_eq_true rfl, Nat.le_of_ble_eq_true rfl⟩) (zqV hK hP [29, 30, 31, 32, 33, 34, 35, 36, 37, 38, 39, 40, 41, 42, 43, 44, 45, 46, 47, 48] rfl 29 rfl rfl) rfl rfl hl.1 rfl (lv_room (Nat.le_of_ble_eq_true rfl)) dL_law_534 ⟨(by show _ ≤ 1099; omega), (by show _ ≤ 10341; omega)⟩) ?_
  refine lv_iload hx hb dL_law_537 (lv_at hl 1 rfl) ?_
  refine zi_same (tgt := 544) hx hb (hkt.symm) dL_law_539 (by decide) ?_
  refine lv_iload hx hb dL_law_544 (lv_at hl 1 rfl) ?_
  refine zi_fne (tgt := 561) hx hb (by omega) dL_law_546 (by decide) (fun hk0 => ?_) (fun hk0 => ?_)
  · skip
    refine lv_goto (tgt := 1502) hx hb dL_law_561 (by decide) ?_
    refine W.widen (k := cells + 1) (n := slots + 6) (by omega) (by omega) ?_
    exact ih pw co la vo cpar fr cdee use_c run nC tdue tlat twk nT edue elat ewk nE len_c cnt_c tin sp_c pe_c slp late srv hv av bd sh sc lt rule now st_c asl idl_c idn_c par div dee mrun mL mB thr_m o_c H locs hLI hP hD hS ls (lv_sub hl [2, 3, 4, 5, 6] rfl)
  refine lv_aload_n hx hb dL_law_549 rfl (lv_at hl 6 rfl) ?_
  refine lv_iconst (v := iI 0) hx hb dL_law_550 rfl ?_
  refine za_lld hx hb hK hP 49 1 rfl rfl (by decide) (by decide) dL_law_551 ?_
  refine lv_iload hx hb dL_law_552 (lv_at hl 0 rfl) ?_
  refine zi_l0 hx hb dL_law_554 ?_
  refine zl_same (tgt := 561) hx hb (ho9 hk0) dL_law_555 dL_law_556 (by decide) ?_
  refine lv_goto (tgt := 1502) hx hb dL_law_561 (by decide) ?_
  refine W.widen (k := cells + 1) (n := slots + 6) (by omega) (by omega) ?_
  exact ih pw co la vo cpar fr cdee use_c run nC tdue tlat twk nT edue elat ewk nE len_c cnt_c tin sp_c pe_c slp late srv hv av bd sh sc lt rule now st_c asl idl_c idn_c par div dee mrun mL mB thr_m o_c H locs hLI hP hD hS ls (lv_sub hl [2, 3, 4, 5, 6] rfl)
set_option maxRecDepth 100000 in
set_option maxHeartbeats 4000000 in
theorem lc_runs {p : Program} {l : Launch} {e : Env} {s : State} {m : MethodId} {below : List Frame} {meth : Method} {c : Code} {Q : State → Prop} {dC : Nat → ClassId} {dI : Nat → Nat → Nat} {cI cJ cZ : ClassId} {q : Nat → Nat} {b L : Nat} {xs : Nat → Int32} {i9 K : Int} {cells slots : Nat} {pw : Int → Int} {co : Int → Int} {la : Int → Int} {vo : Int → Int} {cpar : Int → Int} {fr : Int → Int} {cdee : Int → Int} {use : Int → Int} {run : Int → Int} {nC : Int} {tdue : Int → Int} {tlat : Int → Int} {twk : Int → Int} {nT : Int} {edue : Int → Int} {elat : Int → Int} {ewk : Int → Int} {nE : Int} {len : Int → Int} {cnt : Int} {tin : Int → Int} {sp : Int} {pe : Int} {slp : Int} {late : Int} {srv : Int} {hv : Int → Int} {av : Int} {bd : Int} {sh : Int} {sc : Int → Int} {lt : Int → Int} {rule : Int} {now : Int} {st : Int} {asl : Int} {idl : Int → Int} {idn : Int} {par : Int → Int} {div : Int → Int} {dee : Int → Int} {mrun : Int → Int} {mL : Int → Int} {mB : Int → Int} {thr : Int} {o : Int → Int} (hE : lEnv p l s m c dC dI cI cJ cZ b L xs) (hi : 0 ≤ i9 ∧ i9 + 5 ≤ L) (hc : cells + 1 ≤ 1099 ∧ slots + 6 ≤ 10341) (hK9 : 0 ≤ K ∧ K ≤ 110000) (ih : lIh p l e s m below meth c Q dC dI cI cJ cZ q b i9 (K + 200) (cells + 1) (slots + 6)) (hI : LI K pw co la vo cpar fr cdee use run nC tdue tlat twk nT edue elat ewk nE len cnt tin sp pe slp late srv hv av bd sh sc lt rule now st asl idl idn par div dee mrun mB) {H : Heap} {locs : List Loc} (hP : va_P (dC, dI) vwCl (wLW cI cJ cZ q pw co la vo cpar fr cdee use run nC tdue tlat twk nT edue elat ewk nE len cnt tin sp pe slp late srv hv av bd sh sc lt rule now st asl idl idn par div dee pw co la vo nC par div dee use mrun nT tdue tlat twk nE edue ewk rule now st asl idn idl sp pe tin slp late srv hv av bd sh mL mB thr o) H) (hD : va_D (fun q9 : Nat => s.heap.size ≤ q9) (wLW cI cJ cZ q pw co la vo cpar fr cdee use run nC tdue tlat twk nT edue elat ewk nE len cnt tin sp pe slp late srv hv av bd sh sc lt rule now st asl idl idn par div dee pw co la vo nC par div dee use mrun nT tdue tlat twk nE edue ewk rule now st asl idn idl sp pe tin slp late srv hv av bd sh mL mB thr o)) (hS : va_S (fun q9 : Nat => s.heap.size ≤ q9) s.heap H locs) {ls : Array Slot} (hl : lv_has ls 8 [(4, .int (iI i9)), (0, .ref b), (1, .ref (q 0)), (2, .ref (q 29)), (3, .ref (q 49))]) : W p l e room_1 s m #[Value.ref b] below meth c H locs cells slots Q (F0 m 564 ls []) := by
  obtain ⟨hx, hb, hml, hown, hts, htr, hX, hY, hK, hXs, hbl, hL⟩ := hE
  have hA : ∀ q9 : Nat, s.heap.size ≤ q9 → (fun q9 : Nat => s.heap.size ≤ q9) q9 := fun _ h => h
  have hbA : ¬ (fun q9 : Nat => s.heap.size ≤ q9) b := Nat.not_le.mpr hbl
  have hf1 : cells + 1 ≤ room_1.cells := hc.1
  have hf6 : slots + 6 ≤ room_1.slots := hc.2
  obtain ⟨x1, hv1, hx1⟩ := iI_of (xs (iI (i9 + 1)).toNatClampNeg)
  obtain ⟨⟨hpw, hco, hla, hc0, hl0⟩, ⟨hnC, hcp, huse, hrun, hcd, hvo, hpp, hdd, hd0, hde, huz, hfr, hfq, hdv, hmrun⟩, ⟨hrl, hhv, hid, hel⟩, hti, ⟨hsc, hlt, hmB⟩⟩ := id hI
  obtain ⟨hst, hasl, hnowK, hnT, htd, htl, htw, hnE, hed, hew, hpeK, hav, hbd, hk14, hev, hidK, hidl⟩ := id hti
  have hnow : 0 ≤ now ∧ now ≤ 200000 := by omega
  have hidn : 0 ≤ idn ∧ idn ≤ 2000000 := by omega
  have hidn1 : 0 ≤ idn ∧ idn ≤ 1000000 := by omega
  have hpe : 0 ≤ pe ∧ pe ≤ 1000000 := by omega
  have hpar : ∀ c : Int, 1 ≤ c → c < nC → 0 ≤ par c ∧ par c < c := fun c h1 h2 => by rw [hpp c h1 h2]; exact hcp c h1 h2
  have htdl : ∀ k : Int, 0 ≤ k → k < nT → tdue k ≤ tlat k := fun k h1 h2 => (hk14 k h1 h2).2
  have htnl : ∀ k : Int, 0 ≤ k → k < nT → now ≤ tlat k := fun k h1 h2 => (hk14 k h1 h2).1
  have htk : ∃ K : Int, K ≤ 190000 ∧ tiB K st asl now nT tdue tlat twk nE edue ewk sp pe tin slp late srv av bd sh idl idn := ⟨K, by omega, hti⟩
  refine lv_aload_n hx hb dL_law_564 rfl (lv_at hl 2 rfl) ?_
  refine lv_aload_n hx hb dL_law_565 rfl (lv_at hl 1 rfl) ?_
  refine lv_iload hx hb dL_law_566 (lv_at hl 0 rfl) ?_
  refine lv_iconst (v := iI 1) hx hb dL_law_568 rfl ?_
  refine zi_add hx hb dL_law_569 ?_
  refine zs_ld hx hb hXs hbl hbA hS (by omega) hL hv1 dL_law_570 ?_
  refine lv_aload_n hx hb dL_law_571 rfl (lv_at hl 4 rfl) ?_
  refine zc_i (vx_runSW (As := [.ref (q 0), .int (iI x1), .ref (q 49)]) (rest := []) ⟨hx, hb, hml, hown, hts⟩ (kL_runs l dC dI cI cJ cZ q pw co la vo cpar fr cdee use run nC tdue tlat twk nT edue elat ewk nE len cnt tin sp pe slp late srv hv av bd sh sc lt rule now st asl idl idn par div dee o x1 (by first | assumption | omega) (by first | assumption | omega) (by first | assumption | omega) (by first | assumption | omega) (by first | assumption | omega) htr H.size) (vx_cwSW 3 hts gL_law_L_runs rfl rfl rfl (by decide +kernel) ⟨Nat.le_of_ble_eq_true rfl, Nat.le_of_ble_eq_true rfl⟩) (zyS hY hX hS hA hK hP hD [0, 1, 2, 3, 4, 5, 6, 7, 8, 9, 10, 11, 12, 13, 14, 15, 16, 17, 18, 19, 20, 21, 22, 23, 24, 25, 26, 27, 28, 49] rfl rfl) rfl rfl hl.1 rfl (lv_room (Nat.le_of_ble_eq_true rfl)) dL_law_572 ⟨hf1, hf6⟩) hP hD hS hA [0, 1, 2, 3, 4, 5, 6, 7, 8, 9, 10, 11, 12, 13, 14, 15, 16, 17, 18, 19, 20, 21, 22, 23, 24, 25, 26, 27, 28, 49] [29, 30, 31, 32, 33, 34, 35, 36, 37, 38, 39, 40, 41, 42, 43, 44, 45, 46, 47, 48] rfl rfl rfl (by decide) (fun vc uc H locs rc hP hD hS => ?_)
  obtain ⟨kv, run_c, o_c⟩ := uc
  obtain ⟨wc, rc⟩ := rc
  refine ze_i wc ?_
  have rc : (kv = 0 ∧ ((0 ≤ x1 ∧ x1 < nC)) ∧ run_c = rnZ cpar (nC - 1) (r0Z use nC run) ∧ o_c = uZ o 0 (b2i (rnZ cpar (nC - 1) (r0Z use nC run) x1 ≠ 0))) ∨ (kv = 1 ∧ (¬ (0 ≤ x1 ∧ x1 < nC)) ∧ run_c = run ∧ o_c = o) := rc
  have hP : va_P (dC, dI) vwCl (wLW cI cJ cZ q pw co la vo cpar fr cdee use run_c nC tdue tlat twk nT edue elat ewk nE len cnt tin sp pe slp late srv hv av bd sh sc lt rule now st asl idl idn par div dee pw co la vo nC par div dee use mrun nT tdue tlat twk nE edue ewk rule now st asl idn idl sp pe tin slp late srv hv av bd sh mL mB thr o_c) H := hP.sub [20, 21, 22, 23, 24, 25, 26, 27, 28, 29, 30, 31, 32, 33, 34, 35, 36, 37, 38, 39, 40, 41, 42, 43, 44, 45, 46, 47, 48, 0, 1, 2, 3, 4, 5, 6, 7, 8, 9, 10, 11, 12, 13, 14, 15, 16, 17, 18, 19, 49] (z_fm rfl)
  have hD : va_D (fun q9 : Nat => s.heap.size ≤ q9) (wLW cI cJ cZ q pw co la vo cpar fr cdee use run_c nC tdue tlat twk nT edue elat ewk nE len cnt tin sp pe slp late srv hv av bd sh sc lt rule now st asl idl idn par div dee pw co la vo nC par div dee use mrun nT tdue tlat twk nE edue ewk rule now st asl idn idl sp pe tin slp late srv hv av bd sh mL mB thr o_c) := hD.sub [20, 21, 22, 23, 24, 25, 26, 27, 28, 29, 30, 31, 32, 33, 34, 35, 36, 37, 38, 39, 40, 41, 42, 43, 44, 45, 46, 47, 48, 0, 1, 2, 3, 4, 5, 6, 7, 8, 9, 10, 11, 12, 13, 14, 15, 16, 17, 18, 19, 49] (by decide) rfl
  refine lv_istore (lv' := [(5, .int (iI kv)), (4, .int (iI i9)), (0, .ref b), (1, .ref (q 0)), (2, .ref (q 29)), (3, .ref (q 49))]) hx hb dL_law_575 hl (by decide) rfl (fun ls hl => ?_)
  refine lv_aload_n hx hb dL_law_577 rfl (lv_at hl 4 rfl) ?_
  refine lv_aload_n hx hb dL_law_578 rfl (lv_at hl 2 rfl) ?_
  refine lv_iload hx hb dL_law_579 (lv_at hl 1 rfl) ?_
  refine lv_iconst (v := iI 1) hx hb dL_law_581 rfl ?_
  refine zi_add hx hb dL_law_582 ?_
  refine zs_ld hx hb hXs hbl hbA hS (by omega) hL hv1 dL_law_583 ?_
  refine zc_i (va_runV (As := [.int (iI x1)]) (rest := []) ⟨hx, hb, hml, hown, hts⟩ (kX8_runs l dC dI cI cJ cZ (fun i => q (i + 29)) pw co la vo nC par div dee use mrun nT tdue tlat twk nE edue ewk rule now st asl idn idl sp pe tin slp late srv hv av bd sh mL mB thr x1 (by first | assumption | omega) (by first | assumption | omega) (by first | assumption | omega) (by first | assumption | omega) (by first | assumption | omega) H.size) (cwV 1 hts gL_law_X8_runs rfl rfl rfl (by decide +kernel) ⟨Nat.le_of_ble_eq_true rfl, Nat.le_of_ble_eq_true rfl⟩) (zpV hK hP hD [29, 30, 31, 32, 33, 34, 35, 36, 37, 38, 39, 40, 41, 42, 43, 44, 45, 46, 47, 48] rfl rfl 29 rfl rfl) rfl rfl hl.1 rfl (lv_room (Nat.le_of_ble_eq_true rfl)) dL_law_584 ⟨(by show _ ≤ 1099; omega), (by show _ ≤ 10341; omega)⟩) hP hD hS hA [29, 30, 31, 32, 33, 34, 35, 36, 37, 38, 39, 40, 41, 42, 43, 44, 45, 46, 47, 48] [0, 1, 2, 3, 4, 5, 6, 7, 8, 9, 10, 11, 12, 13, 14, 15, 16, 17, 18, 19, 20, 21, 22, 23, 24, 25, 26, 27, 28, 49] rfl rfl rfl (by decide) (fun vm um H locs rm hP hD hS => ?_)
  obtain ⟨bv, thr_m, mrun_m⟩ := um
  obtain ⟨wm, rm⟩ := rm
  refine ze_i wm ?_
  have rm : ((0 ≤ x1 ∧ x1 < nC) ∧ thr_m = 0 ∧ bv = (rnZ par (nC - 1) (r0Z use 8 mrun)) x1 ∧ mrun_m = rnZ par (nC - 1) (r0Z use 8 mrun)) ∨ (¬ (0 ≤ x1 ∧ x1 < nC) ∧ thr_m = 1 ∧ mrun_m = mrun) := rm
  have hP : va_P (dC, dI) vwCl (wLW cI cJ cZ q pw co la vo cpar fr cdee use run_c nC tdue tlat twk nT edue elat ewk nE len cnt tin sp pe slp late srv hv av bd sh sc lt rule now st asl idl idn par div dee pw co la vo nC par div dee use mrun_m nT tdue tlat twk nE edue ewk rule now st asl idn idl sp pe tin slp late srv hv av bd sh mL mB thr_m o_c) H := hP.sub [0, 1, 2, 3, 4, 5, 6, 7, 8, 9, 10, 11, 12, 13, 14, 15, 16, 17, 18, 19, 20, 21, 22, 23, 24, 25, 26, 27, 28, 30, 31, 32, 33, 34, 35, 36, 37, 38, 39, 40, 41, 42, 43, 44, 45, 46, 47, 48, 49, 29] (z_fm rfl)
  have hD : va_D (fun q9 : Nat => s.heap.size ≤ q9) (wLW cI cJ cZ q pw co la vo cpar fr cdee use run_c nC tdue tlat twk nT edue elat ewk nE len cnt tin sp pe slp late srv hv av bd sh sc lt rule now st asl idl idn par div dee pw co la vo nC par div dee use mrun_m nT tdue tlat twk nE edue ewk rule now st asl idn idl sp pe tin slp late srv hv av bd sh mL mB thr_m o_c) := hD.sub [0, 1, 2, 3, 4, 5, 6, 7, 8, 9, 10, 11, 12, 13, 14, 15, 16, 17, 18, 19, 20, 21, 22, 23, 24, 25, 26, 27, 28, 30, 31, 32, 33, 34, 35, 36, 37, 38, 39, 40, 41, 42, 43, 44, 45, 46, 47, 48, 49, 29] (by decide) rfl
  have hlo := lo_runs (mL := mL) (o := o) hK9 hx1 hI rc rm
  obtain ⟨hkt, hk3, ho9, hLI⟩ := hlo
  refine lv_istore (lv' := [(6, .int (iI bv)), (5, .int (iI kv)), (4, .int (iI i9)), (0, .ref b), (1, .ref (q 0)), (2, .ref (q 29)), (3, .ref (q 49))]) hx hb dL_law_587 hl (by decide) rfl (fun ls hl => ?_)
  refine lv_aload_n hx hb dL_law_589 rfl (lv_at hl 5 rfl) ?_
  refine zc_pi (va_runV (As := []) (rest := []) ⟨hx, hb, hml, hown, hts⟩ (kX8_thrown l dC dI cI cJ cZ (fun i => q (i + 29)) pw co la vo nC par div dee use mrun_m nT tdue tlat twk nE edue ewk rule now st asl idn idl sp pe tin slp late srv hv av bd sh mL mB thr_m ) (cwV 0 hts gL_law_X8_thrown rfl rfl rfl (by decide +kernel) ⟨Nat.le_of_ble_eq_true rfl, Nat.le_of_ble_eq_true rfl⟩) (zqV hK hP [29, 30, 31, 32, 33, 34, 35, 36, 37, 38, 39, 40, 41, 42, 43, 44, 45, 46, 47, 48] rfl 29 rfl rfl) rfl rfl hl.1 rfl (lv_room (Nat.le_of_ble_eq_true rfl)) dL_law_590 ⟨(by show _ ≤ 1099; omega), (by show _ ≤ 10341; omega)⟩) ?_
  refine lv_iload hx hb dL_law_593 (lv_at hl 1 rfl) ?_
  refine zi_same (tgt := 600) hx hb (hkt.symm) dL_law_595 (by decide) ?_
  refine lv_iload hx hb dL_law_600 (lv_at hl 1 rfl) ?_
  refine zi_fne (tgt := 624) hx hb (by omega) dL_law_602 (by decide) (fun hk0 => ?_) (fun hk0 => ?_)
  · skip
    refine lv_goto (tgt := 1502) hx hb dL_law_624 (by decide) ?_
    refine W.widen (k := cells + 1) (n := slots + 6) (by omega) (by omega) ?_
    exact ih pw co la vo cpar fr cdee use run_c nC tdue tlat twk nT edue elat ewk nE len cnt tin sp pe slp late srv hv av bd sh sc lt rule now st asl idl idn par div dee mrun_m mL mB thr_m o_c H locs hLI hP hD hS ls (lv_sub hl [2, 3, 4, 5, 6] rfl)
  refine lv_aload_n hx hb dL_law_605 rfl (lv_at hl 6 rfl) ?_
  refine lv_iconst (v := iI 0) hx hb dL_law_606 rfl ?_
  refine za_lld hx hb hK hP 49 1 rfl rfl (by decide) (by decide) dL_law_607 ?_
  refine lv_iload hx hb dL_law_608 (lv_at hl 0 rfl) ?_
  have hob := ho9 hk0
  have hb01 := hob.1
  refine zi_feq (tgt := 617) hx hb (by omega) dL_law_610 (by decide) (fun hb0 => ?_) (fun hb0 => ?_)
  · skip
    refine lv_lconst (v := lI 0) hx hb dL_law_617 rfl ?_
    refine zl_same (tgt := 624) hx hb (by omega) dL_law_618 dL_law_619 (by decide) ?_
    refine lv_goto (tgt := 1502) hx hb dL_law_624 (by decide) ?_
    refine W.widen (k := cells + 1) (n := slots + 6) (by omega) (by omega) ?_
    exact ih pw co la vo cpar fr cdee use run_c nC tdue tlat twk nT edue elat ewk nE len cnt tin sp pe slp late srv hv av bd sh sc lt rule now st asl idl idn par div dee mrun_m mL mB thr_m o_c H locs hLI hP hD hS ls (lv_sub hl [2, 3, 4, 5, 6] rfl)
  · skip
    refine lv_lconst (v := lI 1) hx hb dL_law_613 rfl ?_
    refine lv_goto (tgt := 618) hx hb dL_law_614 (by decide) ?_
    refine zl_same (tgt := 624) hx hb (by omega) dL_law_618 dL_law_619 (by decide) ?_
    refine lv_goto (tgt := 1502) hx hb dL_law_624 (by decide) ?_
    refine W.widen (k := cells + 1) (n := slots + 6) (by omega) (by omega) ?_
    exact ih pw co la vo cpar fr cdee use run_c nC tdue tlat twk nT edue elat ewk nE len cnt tin sp pe slp late srv hv av bd sh sc lt rule now st asl idl idn par div dee mrun_m mL mB thr_m o_c H locs hLI hP hD hS ls (lv_sub hl [2, 3, 4, 5, 6] rfl)
set_option maxRecDepth 100000 in
set_option maxHeartbeats 4000000 in
theorem lc_frequency {p : Program} {l : Launch} {e : Env} {s : State} {m : MethodId} {below : List Frame} {meth : Method} {c : Code} {Q : State → Prop} {dC : Nat → ClassId} {dI : Nat → Nat → Nat} {cI cJ cZ : ClassId} {q : Nat → Nat} {b L : Nat} {xs : Nat → Int32} {i9 K : Int} {cells slots : Nat} {pw : Int → Int} {co : Int → Int} {la : Int → Int} {vo : Int → Int} {cpar : Int → Int} {fr : Int → Int} {cdee : Int → Int} {use : Int → Int} {run : Int → Int} {nC : Int} {tdue : Int → Int} {tlat : Int → Int} {twk : Int → Int} {nT : Int} {edue : Int → Int} {elat : Int → Int} {ewk : Int → Int} {nE : Int} {len : Int → Int} {cnt : Int} {tin : Int → Int} {sp : Int} {pe : Int} {slp : Int} {late : Int} {srv : Int} {hv : Int → Int} {av : Int} {bd : Int} {sh : Int} {sc : Int → Int} {lt : Int → Int} {rule : Int} {now : Int} {st : Int} {asl : Int} {idl : Int → Int} {idn : Int} {par : Int → Int} {div : Int → Int} {dee : Int → Int} {mrun : Int → Int} {mL : Int → Int} {mB : Int → Int} {thr : Int} {o : Int → Int} (hE : lEnv p l s m c dC dI cI cJ cZ b L xs) (hi : 0 ≤ i9 ∧ i9 + 5 ≤ L) (hc : cells + 1 ≤ 1099 ∧ slots + 6 ≤ 10341) (hK9 : 0 ≤ K ∧ K ≤ 110000) (ih : lIh p l e s m below meth c Q dC dI cI cJ cZ q b i9 (K + 200) (cells + 1) (slots + 6)) (hI : LI K pw co la vo cpar fr cdee use run nC tdue tlat twk nT edue elat ewk nE len cnt tin sp pe slp late srv hv av bd sh sc lt rule now st asl idl idn par div dee mrun mB) {H : Heap} {locs : List Loc} (hP : va_P (dC, dI) vwCl (wLW cI cJ cZ q pw co la vo cpar fr cdee use run nC tdue tlat twk nT edue elat ewk nE len cnt tin sp pe slp late srv hv av bd sh sc lt rule now st asl idl idn par div dee pw co la vo nC par div dee use mrun nT tdue tlat twk nE edue ewk rule now st asl idn idl sp pe tin slp late srv hv av bd sh mL mB thr o) H) (hD : va_D (fun q9 : Nat => s.heap.size ≤ q9) (wLW cI cJ cZ q pw co la vo cpar fr cdee use run nC tdue tlat twk nT edue elat ewk nE len cnt tin sp pe slp late srv hv av bd sh sc lt rule now st asl idl idn par div dee pw co la vo nC par div dee use mrun nT tdue tlat twk nE edue ewk rule now st asl idn idl sp pe tin slp late srv hv av bd sh mL mB thr o)) (hS : va_S (fun q9 : Nat => s.heap.size ≤ q9) s.heap H locs) {ls : Array Slot} (hl : lv_has ls 8 [(4, .int (iI i9)), (0, .ref b), (1, .ref (q 0)), (2, .ref (q 29)), (3, .ref (q 49))]) : W p l e room_1 s m #[Value.ref b] below meth c H locs cells slots Q (F0 m 627 ls []) := by
  obtain ⟨hx, hb, hml, hown, hts, htr, hX, hY, hK, hXs, hbl, hL⟩ := hE
  have hA : ∀ q9 : Nat, s.heap.size ≤ q9 → (fun q9 : Nat => s.heap.size ≤ q9) q9 := fun _ h => h
  have hbA : ¬ (fun q9 : Nat => s.heap.size ≤ q9) b := Nat.not_le.mpr hbl
  have hf1 : cells + 1 ≤ room_1.cells := hc.1
  have hf6 : slots + 6 ≤ room_1.slots := hc.2
  obtain ⟨x1, hv1, hx1⟩ := iI_of (xs (iI (i9 + 1)).toNatClampNeg)
  obtain ⟨⟨hpw, hco, hla, hc0, hl0⟩, ⟨hnC, hcp, huse, hrun, hcd, hvo, hpp, hdd, hd0, hde, huz, hfr, hfq, hdv, hmrun⟩, ⟨hrl, hhv, hid, hel⟩, hti, ⟨hsc, hlt, hmB⟩⟩ := id hI
  obtain ⟨hst, hasl, hnowK, hnT, htd, htl, htw, hnE, hed, hew, hpeK, hav, hbd, hk14, hev, hidK, hidl⟩ := id hti
  have hnow : 0 ≤ now ∧ now ≤ 200000 := by omega
  have hidn : 0 ≤ idn ∧ idn ≤ 2000000 := by omega
  have hidn1 : 0 ≤ idn ∧ idn ≤ 1000000 := by omega
  have hpe : 0 ≤ pe ∧ pe ≤ 1000000 := by omega
  have hpar : ∀ c : Int, 1 ≤ c → c < nC → 0 ≤ par c ∧ par c < c := fun c h1 h2 => by rw [hpp c h1 h2]; exact hcp c h1 h2
  have htdl : ∀ k : Int, 0 ≤ k → k < nT → tdue k ≤ tlat k := fun k h1 h2 => (hk14 k h1 h2).2
  have htnl : ∀ k : Int, 0 ≤ k → k < nT → now ≤ tlat k := fun k h1 h2 => (hk14 k h1 h2).1
  have htk : ∃ K : Int, K ≤ 190000 ∧ tiB K st asl now nT tdue tlat twk nE edue ewk sp pe tin slp late srv av bd sh idl idn := ⟨K, by omega, hti⟩
  refine lv_aload_n hx hb dL_law_627 rfl (lv_at hl 2 rfl) ?_
  refine lv_aload_n hx hb dL_law_628 rfl (lv_at hl 1 rfl) ?_
  refine lv_iload hx hb dL_law_629 (lv_at hl 0 rfl) ?_
  refine lv_iconst (v := iI 1) hx hb dL_law_631 rfl ?_
  refine zi_add hx hb dL_law_632 ?_
  refine zs_ld hx hb hXs hbl hbA hS (by omega) hL hv1 dL_law_633 ?_
  refine lv_aload_n hx hb dL_law_634 rfl (lv_at hl 4 rfl) ?_
  refine zc_i (vx_runSW (As := [.ref (q 0), .int (iI x1), .ref (q 49)]) (rest := []) ⟨hx, hb, hml, hown, hts⟩ (kL_frequency l dC dI cI cJ cZ q pw co la vo cpar fr cdee use run nC tdue tlat twk nT edue elat ewk nE len cnt tin sp pe slp late srv hv av bd sh sc lt rule now st asl idl idn par div dee o x1 (by first | assumption | omega) (by first | assumption | omega) htr H.size) (vx_cwSW 3 hts gL_law_L_frequency rfl rfl rfl (by decide +kernel) ⟨Nat.le_of_ble_eq_true rfl, Nat.le_of_ble_eq_true rfl⟩) (zyS hY hX hS hA hK hP hD [0, 1, 2, 3, 4, 5, 6, 7, 8, 9, 10, 11, 12, 13, 14, 15, 16, 17, 18, 19, 20, 21, 22, 23, 24, 25, 26, 27, 28, 49] rfl rfl) rfl rfl hl.1 rfl (lv_room (Nat.le_of_ble_eq_true rfl)) dL_law_635 ⟨hf1, hf6⟩) hP hD hS hA [0, 1, 2, 3, 4, 5, 6, 7, 8, 9, 10, 11, 12, 13, 14, 15, 16, 17, 18, 19, 20, 21, 22, 23, 24, 25, 26, 27, 28, 49] [29, 30, 31, 32, 33, 34, 35, 36, 37, 38, 39, 40, 41, 42, 43, 44, 45, 46, 47, 48] rfl rfl rfl (by decide) (fun vc uc H locs rc hP hD hS => ?_)
  obtain ⟨kv, o_c⟩ := uc
  obtain ⟨wc, rc⟩ := rc
  refine ze_i wc ?_
  have rc : (kv = 0 ∧ ((0 ≤ x1 ∧ x1 < nC)) ∧ o_c = uZ o 0 ((iI (fr x1)).toInt)) ∨ (kv = 1 ∧ (¬ (0 ≤ x1 ∧ x1 < nC)) ∧ o_c = o) := rc
  have hP : va_P (dC, dI) vwCl (wLW cI cJ cZ q pw co la vo cpar fr cdee use run nC tdue tlat twk nT edue elat ewk nE len cnt tin sp pe slp late srv hv av bd sh sc lt rule now st asl idl idn par div dee pw co la vo nC par div dee use mrun nT tdue tlat twk nE edue ewk rule now st asl idn idl sp pe tin slp late srv hv av bd sh mL mB thr o_c) H := hP.sub [20, 21, 22, 23, 24, 25, 26, 27, 28, 29, 30, 31, 32, 33, 34, 35, 36, 37, 38, 39, 40, 41, 42, 43, 44, 45, 46, 47, 48, 0, 1, 2, 3, 4, 5, 6, 7, 8, 9, 10, 11, 12, 13, 14, 15, 16, 17, 18, 19, 49] (z_fm rfl)
  have hD : va_D (fun q9 : Nat => s.heap.size ≤ q9) (wLW cI cJ cZ q pw co la vo cpar fr cdee use run nC tdue tlat twk nT edue elat ewk nE len cnt tin sp pe slp late srv hv av bd sh sc lt rule now st asl idl idn par div dee pw co la vo nC par div dee use mrun nT tdue tlat twk nE edue ewk rule now st asl idn idl sp pe tin slp late srv hv av bd sh mL mB thr o_c) := hD.sub [20, 21, 22, 23, 24, 25, 26, 27, 28, 29, 30, 31, 32, 33, 34, 35, 36, 37, 38, 39, 40, 41, 42, 43, 44, 45, 46, 47, 48, 0, 1, 2, 3, 4, 5, 6, 7, 8, 9, 10, 11, 12, 13, 14, 15, 16, 17, 18, 19, 49] (by decide) rfl
  refine lv_istore (lv' := [(5, .int (iI kv)), (4, .int (iI i9)), (0, .ref b), (1, .ref (q 0)), (2, .ref (q 29)), (3, .ref (q 49))]) hx hb dL_law_638 hl (by decide) rfl (fun ls hl => ?_)
  refine lv_aload_n hx hb dL_law_640 rfl (lv_at hl 4 rfl) ?_
  refine lv_aload_n hx hb dL_law_641 rfl (lv_at hl 2 rfl) ?_
  refine lv_iload hx hb dL_law_642 (lv_at hl 1 rfl) ?_
  refine lv_iconst (v := iI 1) hx hb dL_law_644 rfl ?_
  refine zi_add hx hb dL_law_645 ?_
  refine zs_ld hx hb hXs hbl hbA hS (by omega) hL hv1 dL_law_646 ?_
  refine zc_i (va_runV (As := [.int (iI x1)]) (rest := []) ⟨hx, hb, hml, hown, hts⟩ (kX8_frequency l dC dI cI cJ cZ (fun i => q (i + 29)) pw co la vo nC par div dee use mrun nT tdue tlat twk nE edue ewk rule now st asl idn idl sp pe tin slp late srv hv av bd sh mL mB thr x1 (by first | assumption | omega) (by first | assumption | omega) (by first | assumption | omega) (by first | assumption | omega) H.size) (cwV 1 hts gL_law_X8_frequency rfl rfl rfl (by decide +kernel) ⟨Nat.le_of_ble_eq_true rfl, Nat.le_of_ble_eq_true rfl⟩) (zpV hK hP hD [29, 30, 31, 32, 33, 34, 35, 36, 37, 38, 39, 40, 41, 42, 43, 44, 45, 46, 47, 48] rfl rfl 29 rfl rfl) rfl rfl hl.1 rfl (lv_room (Nat.le_of_ble_eq_true rfl)) dL_law_647 ⟨(by show _ ≤ 1099; omega), (by show _ ≤ 10341; omega)⟩) hP hD hS hA [29, 30, 31, 32, 33, 34, 35, 36, 37, 38, 39, 40, 41, 42, 43, 44, 45, 46, 47, 48] [0, 1, 2, 3, 4, 5, 6, 7, 8, 9, 10, 11, 12, 13, 14, 15, 16, 17, 18, 19, 20, 21, 22, 23, 24, 25, 26, 27, 28, 49] rfl rfl rfl (by decide) (fun vm um H locs rm hP hD hS => ?_)
  obtain ⟨bv, thr_m⟩ := um
  obtain ⟨wm, rm⟩ := rm
  refine ze_i wm ?_
  have rm : ((0 ≤ x1 ∧ x1 < nC) ∧ thr_m = 0 ∧ bv = 4800 / fqN par div 8 x1 1) ∨ (¬ (0 ≤ x1 ∧ x1 < nC) ∧ thr_m = 1) := rm
  have hP : va_P (dC, dI) vwCl (wLW cI cJ cZ q pw co la vo cpar fr cdee use run nC tdue tlat twk nT edue elat ewk nE len cnt tin sp pe slp late srv hv av bd sh sc lt rule now st asl idl idn par div dee pw co la vo nC par div dee use mrun nT tdue tlat twk nE edue ewk rule now st asl idn idl sp pe tin slp late srv hv av bd sh mL mB thr_m o_c) H := hP.sub [0, 1, 2, 3, 4, 5, 6, 7, 8, 9, 10, 11, 12, 13, 14, 15, 16, 17, 18, 19, 20, 21, 22, 23, 24, 25, 26, 27, 28, 30, 31, 32, 33, 34, 35, 36, 37, 38, 39, 40, 41, 42, 43, 44, 45, 46, 47, 48, 49, 29] (z_fm rfl)
  have hD : va_D (fun q9 : Nat => s.heap.size ≤ q9) (wLW cI cJ cZ q pw co la vo cpar fr cdee use run nC tdue tlat twk nT edue elat ewk nE len cnt tin sp pe slp late srv hv av bd sh sc lt rule now st asl idl idn par div dee pw co la vo nC par div dee use mrun nT tdue tlat twk nE edue ewk rule now st asl idn idl sp pe tin slp late srv hv av bd sh mL mB thr_m o_c) := hD.sub [0, 1, 2, 3, 4, 5, 6, 7, 8, 9, 10, 11, 12, 13, 14, 15, 16, 17, 18, 19, 20, 21, 22, 23, 24, 25, 26, 27, 28, 30, 31, 32, 33, 34, 35, 36, 37, 38, 39, 40, 41, 42, 43, 44, 45, 46, 47, 48, 49, 29] (by decide) rfl
  have hlo := lo_frequency (mL := mL) (o := o) hK9 hx1 hI rc rm
  obtain ⟨hkt, hk3, ho9, hLI⟩ := hlo
  refine lv_istore (lv' := [(6, .int (iI bv)), (5, .int (iI kv)), (4, .int (iI i9)), (0, .ref b), (1, .ref (q 0)), (2, .ref (q 29)), (3, .ref (q 49))]) hx hb dL_law_650 hl (by decide) rfl (fun ls hl => ?_)
  refine lv_aload_n hx hb dL_law_652 rfl (lv_at hl 5 rfl) ?_
  refine zc_pi (va_runV (As := []) (rest := []) ⟨hx, hb, hml, hown, hts⟩ (kX8_thrown l dC dI cI cJ cZ (fun i => q (i + 29)) pw co la vo nC par div dee use mrun nT tdue tlat twk nE edue ewk rule now st asl idn idl sp pe tin slp late srv hv av bd sh mL mB thr_m ) (cwV 0 hts gL_law_X8_thrown rfl rfl rfl (by decide +kernel) ⟨Nat.le_of_ble_eq_true rfl, Nat.le_of_ble_eq_true rfl⟩) (zqV hK hP [29, 30, 31, 32, 33, 34, 35, 36, 37, 38, 39, 40, 41, 42, 43, 44, 45, 46, 47, 48] rfl 29 rfl rfl) rfl rfl hl.1 rfl (lv_room (Nat.le_of_ble_eq_true rfl)) dL_law_653 ⟨(by show _ ≤ 1099; omega), (by show _ ≤ 10341; omega)⟩) ?_
  refine lv_iload hx hb dL_law_656 (lv_at hl 1 rfl) ?_
  refine zi_same (tgt := 663) hx hb (hkt.symm) dL_law_658 (by decide) ?_
  refine lv_iload hx hb dL_law_663 (lv_at hl 1 rfl) ?_
  refine zi_fne (tgt := 680) hx hb (by omega) dL_law_665 (by decide) (fun hk0 => ?_) (fun hk0 => ?_)
  · skip
    refine lv_goto (tgt := 1502) hx hb dL_law_680 (by decide) ?_
    refine W.widen (k := cells + 1) (n := slots + 6) (by omega) (by omega) ?_
    exact ih pw co la vo cpar fr cdee use run nC tdue tlat twk nT edue elat ewk nE len cnt tin sp pe slp late srv hv av bd sh sc lt rule now st asl idl idn par div dee mrun mL mB thr_m o_c H locs hLI hP hD hS ls (lv_sub hl [2, 3, 4, 5, 6] rfl)
  refine lv_aload_n hx hb dL_law_668 rfl (lv_at hl 6 rfl) ?_
  refine lv_iconst (v := iI 0) hx hb dL_law_669 rfl ?_
  refine za_lld hx hb hK hP 49 1 rfl rfl (by decide) (by decide) dL_law_670 ?_
  refine lv_iload hx hb dL_law_671 (lv_at hl 0 rfl) ?_
  refine zi_l0 hx hb dL_law_673 ?_
  refine zl_same (tgt := 680) hx hb (ho9 hk0) dL_law_674 dL_law_675 (by decide) ?_
  refine lv_goto (tgt := 1502) hx hb dL_law_680 (by decide) ?_
  refine W.widen (k := cells + 1) (n := slots + 6) (by omega) (by omega) ?_
  exact ih pw co la vo cpar fr cdee use run nC tdue tlat twk nT edue elat ewk nE len cnt tin sp pe slp late srv hv av bd sh sc lt rule now st asl idl idn par div dee mrun mL mB thr_m o_c H locs hLI hP hD hS ls (lv_sub hl [2, 3, 4, 5, 6] rfl)
