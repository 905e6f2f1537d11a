/-! THE CLAIM OUT OF ONE WALK OF THE LAW'S BODY. Your part is whole_start (and what it stands on); all else here is the same for every law, but numbers. -/
def R_law : String := "SleepPlannerLaw"
def lw_P (b : Addr) (xs : List Int32) (args : Array Value) (s : State) : Prop := args = #[.ref b] ∧ s.IntsAt b xs ∧ xs.length ≤ 2560 ∧ (Jvm.Cond.and given_1 narrow_1).before args s = true
def lw_Q (_ : Array Value) (s : State) (o : Outcome) (t : State) : Prop := o = .returned (some (.int 1)) ∧ Framed s o t [] 1099 10341
def lw_Z (below : List Frame) (a : Array Value) (s : State) : State → Prop := fun t => ∃ o, t.status = .running ∧ Ended t below o ∧ lw_Q a s o t
/-- the law's own end, with 1 on the stack, nothing written that was there before, its room as the claim has it -/
theorem lw_ret {p : Program} {l : Launch} {e : Env} {s : State} {m : MethodId} {below : List Frame} {meth : Method} {c : Code} {b : Nat} (hx : p.tables.exec = Jvm.exec) (hb : c.code = code) (hr : meth.sig.returnType = ret) (hlocks : meth.locks = false) {pc : Nat} {H : Heap} {ls : Array Slot} (hdg : decode code pc = .ok (.ireturn, 1)) : W p l e room_1 s m #[Value.ref b] below meth c H [] 1099 10341 (lw_Z below #[Value.ref b] s) (F0 m pc ls [.int 1]) := by
  intro T hT X
  obtain ⟨fs, hret, hrun, hended, hW, hframe⟩ := X.leave (v := some (.int 1)) (hlocks := hlocks) (fun h => by rw [hr] at h; cases h)
  have hmeth' : T.vm.method? m = some meth := X.method'
  refine ⟨T.setFrames fs, ?_, .returned (some (.int 1)), hrun, hended, rfl, ⟨_, rfl⟩, hW, hframe⟩
  jvm_step X.here [X.here.top, hx, hb, hdg, hmeth', hr, ret, narrow_b1]
  (try refine ⟨rfl, ?_⟩); (try refine ⟨rfl, ?_⟩)
  first | (intro acts; rw [hret _ acts rfl rfl rfl]) | rw [hret _ _ rfl rfl rfl]
  exact Steps.refl _
/-- what holds at the law's entry: the machine, the code, the tables' words (any of lw_tbl by 'hts w (by decide +kernel)'), the script of L ints xs at the cell b, what the Statement gives of the start (any of its parts by flat_of_before) -/
def lw_At (p : Program) (s : State) (m : MethodId) (meth : Method) (c : Code) (b L : Nat) (xs : Nat → Int32) : Prop :=
  p.tables.exec = Jvm.exec ∧ c.code = code ∧ meth.sig.returnType = ret ∧ c.maxLocals = 8 ∧ s.vm.findClass R_law = some m.cls ∧ (∀ w ∈ lw_tbl, w.before #[Value.ref b] s = true) ∧ va_X b L xs s s.heap ∧ b < s.heap.size ∧ meth.locks = false ∧ (Jvm.Cond.and given_1 narrow_1).before #[Value.ref b] s = true
theorem and31 (x : Int32) : 0 ≤ (x &&& 31).toInt ∧ (x &&& 31).toInt ≤ 31 := by
  have h1 : (x &&& 31).toBitVec.toNat ≤ 31 := by
    rw [Int32.toBitVec_and, BitVec.toNat_and]
    exact Nat.le_trans Nat.and_le_right (by decide)
  have h2 : (x &&& 31).toInt = ((x &&& 31).toBitVec.toNat : Int) := BitVec.toInt_eq_toNat_of_lt (by omega)
  omega
set_option maxRecDepth 100000 in
set_option maxHeartbeats 4000000 in
theorem law_loop {p : Program} {l : Launch} {e : Env} {s : State} {m : MethodId} {below : List Frame} {meth : Method} {c : Code} {dC : Nat → ClassId} {dI : Nat → Nat → Nat} {cI cJ cZ : ClassId} {q : Nat → Nat} {b L : Nat} {xs : Nat → Int32} (hE : lEnv p l s m c dC dI cI cJ cZ b L xs) (hr : meth.sig.returnType = ret) (hlocks : meth.locks = false) :
    ∀ (n : Nat) (i9 K : Int) (cells slots : Nat), 0 ≤ i9 → i9 ≤ L → (L : Int) < i9 + 5 * (n : Int) → K = 40 * i9 → (cells : Int) * 5 = 250 + i9 → (slots : Int) * 5 = 9995 + 6 * i9 → ∀ (pw : Int → Int) (co : Int → Int) (la : Int → Int) (vo : Int → Int) (cpar : Int → Int) (fr : Int → Int) (cdee : Int → Int) (use : Int → Int) (run : Int → Int) (nC : Int) (tdue : Int → Int) (tlat : Int → Int) (twk : Int → Int) (nT : Int) (edue : Int → Int) (elat : Int → Int) (ewk : Int → Int) (nE : Int) (len : Int → Int) (cnt : Int) (tin : Int → Int) (sp : Int) (pe : Int) (slp : Int) (late : Int) (srv : Int) (hv : Int → Int) (av : Int) (bd : Int) (sh : Int) (sc : Int → Int) (lt : Int → Int) (rule : Int) (now : Int) (st : Int) (asl : Int) (idl : Int → Int) (idn : Int) (par : Int → Int) (div : Int → Int) (dee : Int → Int) (mrun : Int → Int) (mL : Int → Int) (mB : Int → Int) (thr : Int) (o : Int → Int) (H : Heap) (locs : List Loc), LI K pw co la vo cpar fr cdee use run nC tdue tlat twk nT edue elat ewk nE len cnt tin sp pe slp late srv hv av bd sh sc lt rule now st asl idl idn par div dee mrun mB → va_P (dC, dI) vwCl (wLW cI cJ cZ q pw co la vo cpar fr cdee use run nC tdue tlat twk nT edue elat ewk nE len cnt tin sp pe slp late srv hv av bd sh sc lt rule now st asl idl idn par div dee pw co la vo nC par div dee use mrun nT tdue tlat twk nE edue ewk rule now st asl idn idl sp pe tin slp late srv hv av bd sh mL mB thr o) H → va_D (fun q9 : Nat => s.heap.size ≤ q9) (wLW cI cJ cZ q pw co la vo cpar fr cdee use run nC tdue tlat twk nT edue elat ewk nE len cnt tin sp pe slp late srv hv av bd sh sc lt rule now st asl idl idn par div dee pw co la vo nC par div dee use mrun nT tdue tlat twk nE edue ewk rule now st asl idn idl sp pe tin slp late srv hv av bd sh mL mB thr o) → va_S (fun q9 : Nat => s.heap.size ≤ q9) s.heap H locs → ∀ ls : Array Slot, lv_has ls 8 [(4, .int (iI i9)), (0, .ref b), (1, .ref (q 0)), (2, .ref (q 29)), (3, .ref (q 49))] → W p l e room_1 s m #[Value.ref b] below meth c H locs cells slots (lw_Z below #[Value.ref b] s) (F0 m 23 ls []) := by
  intro n
  induction n with
  | zero =>
    intro i9 K cells slots h1 h2 h3
    exact absurd h3 (by omega)
  | succ n ih =>
    intro i9 K cells slots h1 h2 h3 h4 h5 h6 pw co la vo cpar fr cdee use run nC tdue tlat twk nT edue elat ewk nE len cnt tin sp pe slp late srv hv av bd sh sc lt rule now st asl idl idn par div dee mrun mL mB thr o H locs hI hP hD hS ls hl
    obtain ⟨hx, hb, hml, hown, hts, htr, hX, hY, hK, hXs, hbl, hL⟩ := id hE
    have hbA : ¬ (fun q9 : Nat => s.heap.size ≤ q9) b := Nat.not_le.mpr hbl
    refine lv_iload hx hb dL_law_23 (lv_at hl 0 rfl) ?_
    refine lv_aload_n hx hb dL_law_25 rfl (lv_at hl 1 rfl) ?_
    refine va_slen hx hb hXs hbl hbA hS dL_law_26 ?_
    rw [show Int32.ofNat L = iI (L : Int) from (Int32.ofInt_eq_ofNat).symm]
    refine lv_iconst (v := iI 5) hx hb dL_law_27 rfl ?_
    refine zi_sub hx hb dL_law_28 ?_
    refine zi_cgt (tgt := 1508) hx hb (by omega) (by omega) dL_law_29 (by decide) (fun c1 => ?_) (fun c1 => ?_)
    · refine lv_iconst (v := 1) hx hb dL_law_1508 (by decide) ?_
      refine va_forget (fun q hq => hS.2.2 q hq) ?_
      refine W.widen (k := 1099) (n := 10341) (by omega) (by omega) ?_
      exact lw_ret hx hb hr hlocks dL_law_1509
    · have hi : 0 ≤ i9 ∧ i9 + 5 ≤ L := by omega
      have hc : cells + 1 ≤ 1099 ∧ slots + 6 ≤ 10341 := by omega
      have hK9 : 0 ≤ K ∧ K ≤ 110000 := by omega
      have hih : lIh p l e s m below meth c (lw_Z below #[Value.ref b] s) dC dI cI cJ cZ q b i9 (K + 200) (cells + 1) (slots + 6) := by
        intro pw co la vo cpar fr cdee use run nC tdue tlat twk nT edue elat ewk nE len cnt tin sp pe slp late srv hv av bd sh sc lt rule now st asl idl idn par div dee mrun mL mB thr o H locs hI hP hD hS ls hl
        refine lv_iinc (v := iI (i9 + 5)) (lv' := [(4, .int (iI (i9 + 5))), (0, .ref b), (1, .ref (q 0)), (2, .ref (q 29)), (3, .ref (q 49))]) hx hb dL_law_1502 hl (k := 0) rfl (iI_add _ _) (by decide) rfl (fun ls hl => ?_)
        refine lv_goto (tgt := 23) hx hb dL_law_1505 (by decide) ?_
        exact ih (i9 + 5) (K + 200) (cells + 1) (slots + 6) (by omega) (by omega) (by omega) (by omega) (by omega) (by omega) pw co la vo cpar fr cdee use run nC tdue tlat twk nT edue elat ewk nE len cnt tin sp pe slp late srv hv av bd sh sc lt rule now st asl idl idn par div dee mrun mL mB thr o H locs hI hP hD hS ls (lv_sub hl [0, 1, 2, 3, 4] rfl)
      obtain ⟨x0, hv0, hx0⟩ := iI_of (xs (iI i9).toNatClampNeg)
      refine lv_aload_n hx hb dL_law_32 rfl (lv_at hl 1 rfl) ?_
      refine lv_iload hx hb dL_law_33 (lv_at hl 0 rfl) ?_
      refine zs_ld hx hb hXs hbl hbA hS (by omega) hL hv0 dL_law_35 ?_
      refine lv_bipush (v := 31) hx hb dL_law_36 (by decide) ?_
      refine lv_iand hx hb dL_law_38 ?_
      have h31 := and31 (iI x0)
      generalize iI x0 &&& 31 = v9 at h31 ⊢
      rcases (show v9.toInt = 0 ∨ v9.toInt = 1 ∨ v9.toInt = 2 ∨ v9.toInt = 3 ∨ v9.toInt = 4 ∨ v9.toInt = 5 ∨ v9.toInt = 6 ∨ v9.toInt = 7 ∨ v9.toInt = 8 ∨ v9.toInt = 9 ∨ v9.toInt = 10 ∨ v9.toInt = 11 ∨ v9.toInt = 12 ∨ v9.toInt = 13 ∨ v9.toInt = 14 ∨ v9.toInt = 15 ∨ v9.toInt = 16 ∨ v9.toInt = 17 ∨ v9.toInt = 18 ∨ v9.toInt = 19 ∨ v9.toInt = 20 ∨ v9.toInt = 21 ∨ v9.toInt = 22 ∨ v9.toInt = 23 ∨ v9.toInt = 24 ∨ v9.toInt = 25 ∨ v9.toInt = 26 ∨ v9.toInt = 27 ∨ v9.toInt = 28 ∨ v9.toInt = 29 ∨ v9.toInt = 30 ∨ v9.toInt = 31 by omega) with hz | hz | hz | hz | hz | hz | hz | hz | hz | hz | hz | hz | hz | hz | hz | hz | hz | hz | hz | hz | hz | hz | hz | hz | hz | hz | hz | hz | hz | hz | hz | hz
      · refine lv_tableIn (off := 137) (tgt := 176) hx hb dL_law_39 (by omega) (by omega) (by rw [hz]; rfl) (by decide) ?_
        exact lc_setState hE hi hc hK9 hih hI hP hD hS (lv_sub hl [0, 1, 2, 3, 4] rfl)
      · refine lv_tableIn (off := 209) (tgt := 248) hx hb dL_law_39 (by omega) (by omega) (by rw [hz]; rfl) (by decide) ?_
        exact lc_setAwake hE hi hc hK9 hih hI hP hD hS (lv_sub hl [0, 1, 2, 3, 4] rfl)
      · refine lv_tableIn (off := 265) (tgt := 304) hx hb dL_law_39 (by omega) (by omega) (by rw [hz]; rfl) (by decide) ?_
        exact lc_vote hE hi hc hK9 hih hI hP hD hS (lv_sub hl [0, 1, 2, 3, 4] rfl)
      · refine lv_tableIn (off := 333) (tgt := 372) hx hb dL_law_39 (by omega) (by omega) (by rw [hz]; rfl) (by decide) ?_
        exact lc_addClock hE hi hc hK9 hih hI hP hD hS (lv_sub hl [0, 1, 2, 3, 4] rfl)
      · refine lv_tableIn (off := 413) (tgt := 452) hx hb dL_law_39 (by omega) (by omega) (by rw [hz]; rfl) (by decide) ?_
        exact lc_use hE hi hc hK9 hih hI hP hD hS (lv_sub hl [0, 1, 2, 3, 4] rfl)
      · refine lv_tableIn (off := 469) (tgt := 508) hx hb dL_law_39 (by omega) (by omega) (by rw [hz]; rfl) (by decide) ?_
        exact lc_release hE hi hc hK9 hih hI hP hD hS (lv_sub hl [0, 1, 2, 3, 4] rfl)
      · refine lv_tableIn (off := 525) (tgt := 564) hx hb dL_law_39 (by omega) (by omega) (by rw [hz]; rfl) (by decide) ?_
        exact lc_runs hE hi hc hK9 hih hI hP hD hS (lv_sub hl [0, 1, 2, 3, 4] rfl)
      · refine lv_tableIn (off := 588) (tgt := 627) hx hb dL_law_39 (by omega) (by omega) (by rw [hz]; rfl) (by decide) ?_
        exact lc_frequency hE hi hc hK9 hih hI hP hD hS (lv_sub hl [0, 1, 2, 3, 4] rfl)
      · refine lv_tableIn (off := 644) (tgt := 683) hx hb dL_law_39 (by omega) (by omega) (by rw [hz]; rfl) (by decide) ?_
        exact lc_depth hE hi hc hK9 hih hI hP hD hS (lv_sub hl [0, 1, 2, 3, 4] rfl)
      · refine lv_tableIn (off := 657) (tgt := 696) hx hb dL_law_39 (by omega) (by omega) (by rw [hz]; rfl) (by decide) ?_
        exact lc_breakEven hE hi hc hK9 hih hI hP hD hS (lv_sub hl [0, 1, 2, 3, 4] rfl)
      · refine lv_tableIn (off := 713) (tgt := 752) hx hb dL_law_39 (by omega) (by omega) (by rw [hz]; rfl) (by decide) ?_
        exact lc_schedule hE hi hc hK9 hih hI hP hD hS (lv_sub hl [0, 1, 2, 3, 4] rfl)
      · refine lv_tableIn (off := 793) (tgt := 832) hx hb dL_law_39 (by omega) (by omega) (by rw [hz]; rfl) (by decide) ?_
        exact lc_addEvent hE hi hc hK9 hih hI hP hD hS (lv_sub hl [0, 1, 2, 3, 4] rfl)
      · refine lv_tableIn (off := 861) (tgt := 900) hx hb dL_law_39 (by omega) (by omega) (by rw [hz]; rfl) (by decide) ?_
        exact lc_setRule hE hi hc hK9 hih hI hP hD hS (lv_sub hl [0, 1, 2, 3, 4] rfl)
      · refine lv_tableIn (off := 917) (tgt := 956) hx hb dL_law_39 (by omega) (by omega) (by rw [hz]; rfl) (by decide) ?_
        exact lc_timers hE hi hc hK9 hih hI hP hD hS (lv_sub hl [0, 1, 2, 3, 4] rfl)
      · refine lv_tableIn (off := 930) (tgt := 969) hx hb dL_law_39 (by omega) (by omega) (by rw [hz]; rfl) (by decide) ?_
        exact lc_nextWakeup hE hi hc hK9 hih hI hP hD hS (lv_sub hl [0, 1, 2, 3, 4] rfl)
      · refine lv_tableIn (off := 943) (tgt := 982) hx hb dL_law_39 (by omega) (by omega) (by rw [hz]; rfl) (by decide) ?_
        exact lc_play hE hi hc hK9 hih hI hP hD hS (lv_sub hl [0, 1, 2, 3, 4] rfl)
      · refine lv_tableIn (off := 999) (tgt := 1038) hx hb dL_law_39 (by omega) (by omega) (by rw [hz]; rfl) (by decide) ?_
        exact lc_now hE hi hc hK9 hih hI hP hD hS (lv_sub hl [0, 1, 2, 3, 4] rfl)
      · refine lv_tableIn (off := 1012) (tgt := 1051) hx hb dL_law_39 (by omega) (by omega) (by rw [hz]; rfl) (by decide) ?_
        exact lc_state hE hi hc hK9 hih hI hP hD hS (lv_sub hl [0, 1, 2, 3, 4] rfl)
      · refine lv_tableIn (off := 1025) (tgt := 1064) hx hb dL_law_39 (by omega) (by omega) (by rw [hz]; rfl) (by decide) ?_
        exact lc_spent hE hi hc hK9 hih hI hP hD hS (lv_sub hl [0, 1, 2, 3, 4] rfl)
      · refine lv_tableIn (off := 1039) (tgt := 1078) hx hb dL_law_39 (by omega) (by omega) (by rw [hz]; rfl) (by decide) ?_
        exact lc_ticksIn hE hi hc hK9 hih hI hP hD hS (lv_sub hl [0, 1, 2, 3, 4] rfl)
      · refine lv_tableIn (off := 1095) (tgt := 1134) hx hb dL_law_39 (by omega) (by omega) (by rw [hz]; rfl) (by decide) ?_
        exact lc_sleeps hE hi hc hK9 hih hI hP hD hS (lv_sub hl [0, 1, 2, 3, 4] rfl)
      · refine lv_tableIn (off := 1108) (tgt := 1147) hx hb dL_law_39 (by omega) (by omega) (by rw [hz]; rfl) (by decide) ?_
        exact lc_lateness hE hi hc hK9 hih hI hP hD hS (lv_sub hl [0, 1, 2, 3, 4] rfl)
      · refine lv_tableIn (off := 1121) (tgt := 1160) hx hb dL_law_39 (by omega) (by omega) (by rw [hz]; rfl) (by decide) ?_
        exact lc_served hE hi hc hK9 hih hI hP hD hS (lv_sub hl [0, 1, 2, 3, 4] rfl)
      · refine lv_tableIn (off := 1134) (tgt := 1173) hx hb dL_law_39 (by omega) (by omega) (by rw [hz]; rfl) (by decide) ?_
        exact lc_setHarvest hE hi hc hK9 hih hI hP hD hS (lv_sub hl [0, 1, 2, 3, 4] rfl)
      · refine lv_tableIn (off := 1202) (tgt := 1241) hx hb dL_law_39 (by omega) (by omega) (by rw [hz]; rfl) (by decide) ?_
        exact lc_available hE hi hc hK9 hih hI hP hD hS (lv_sub hl [0, 1, 2, 3, 4] rfl)
      · refine lv_tableIn (off := 1215) (tgt := 1254) hx hb dL_law_39 (by omega) (by omega) (by rw [hz]; rfl) (by decide) ?_
        exact lc_bound hE hi hc hK9 hih hI hP hD hS (lv_sub hl [0, 1, 2, 3, 4] rfl)
      · refine lv_tableIn (off := 1228) (tgt := 1267) hx hb dL_law_39 (by omega) (by omega) (by rw [hz]; rfl) (by decide) ?_
        exact lc_shortTicks hE hi hc hK9 hih hI hP hD hS (lv_sub hl [0, 1, 2, 3, 4] rfl)
      · refine lv_tableIn (off := 1241) (tgt := 1280) hx hb dL_law_39 (by omega) (by omega) (by rw [hz]; rfl) (by decide) ?_
        exact lc_plannedWakeups hE hi hc hK9 hih hI hP hD hS (lv_sub hl [0, 1, 2, 3, 4] rfl)
      · refine lv_tableIn (off := 1297) (tgt := 1336) hx hb dL_law_39 (by omega) (by omega) (by rw [hz]; rfl) (by decide) ?_
        exact lc_fewestWakeups hE hi hc hK9 hih hI hP hD hS (lv_sub hl [0, 1, 2, 3, 4] rfl)
      · refine lv_tableIn (off := 1353) (tgt := 1392) hx hb dL_law_39 (by omega) (by omega) (by rw [hz]; rfl) (by decide) ?_
        exact lc_plannedCost hE hi hc hK9 hih hI hP hD hS (lv_sub hl [0, 1, 2, 3, 4] rfl)
      · refine lv_tableIn (off := 1408) (tgt := 1447) hx hb dL_law_39 (by omega) (by omega) (by rw [hz]; rfl) (by decide) ?_
        exact lc_leastCost hE hi hc hK9 hih hI hP hD hS (lv_sub hl [0, 1, 2, 3, 4] rfl)
      · refine lv_tableOut (tgt := 1502) hx hb dL_law_39 (by omega) (by decide) ?_
        refine W.widen (k := cells + 1) (n := slots + 6) (by omega) (by omega) ?_
        obtain ⟨hSI, hCI, hDI, hti, hPI⟩ := id hI
        exact hih pw co la vo cpar fr cdee use run nC tdue tlat twk nT edue elat ewk nE len cnt tin sp pe slp late srv hv av bd sh sc lt rule now st asl idl idn par div dee mrun mL mB thr o H locs ⟨hSI, hCI, hDI, ti_mono (by omega) hti, hPI⟩ hP hD hS ls (lv_sub hl [0, 1, 2, 3, 4] rfl)
