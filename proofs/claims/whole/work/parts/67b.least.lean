/-! the least costs, step by step, with names for the tables -/
theorem fw_n {B ls m m9 n9 : Int → Int} {f t p : Int} (h0 : 0 ≤ f) (hm : m9 = fwZ B ls m f) (hn : n9 = fiZ B f m9 (t - (f + 1))) (hp : p = ls f) (h : t = f + 1 ∨ m9 f ≠ -1) (ht : f + 1 ≤ t ∧ (t ≤ p + 1 ∨ t = f + 1)) (he : p < t ∨ m9 f = -1) : n9 = fwZ B ls m (f + 1) := by
  subst hm
  subst hp
  rw [fw_s h0 h ht he]
  exact hn
theorem fi_n {B m9 n9 : Int → Int} {f t v : Int} (ht : f + 1 ≤ t) (hn : n9 = fiZ B f m9 (t - (f + 1))) (hv : v = if n9 t = -1 ∨ n9 f + B (t - f) < n9 t then n9 f + B (t - f) else n9 t) : uZ n9 t v = fiZ B f m9 (t + 1 - (f + 1)) := by
  rw [fi_s ht, ← hn, hv]
theorem fi_r2 {B m9 n9 : Int → Int} {f t n : Int} (hn : n9 = fiZ B f m9 (t - (f + 1))) (hB : rgZ B 401 100110000) (hm : mRg n m9) (hn4 : n ≤ 400) (hf : 0 ≤ f) (ht : f + 1 ≤ t) (hne : t = f + 1 ∨ m9 f ≠ -1) (hk : t - (f + 1) ≤ n - f) : mRg n n9 ∧ n9 f = m9 f := by
  subst hn
  exact ⟨fi_r hB hm hn4 hf (by rcases hne with h | h; exact Or.inl (by omega); exact Or.inr h) hk, fi_lo (by omega) f (Int.le_refl _)⟩
def rmX8_leastCost : Room := { frames := 2, cells := 0, slots := 0, locals := 43 }
set_option maxRecDepth 100000 in
set_option maxHeartbeats 4000000 in
theorem kX8_leastCost (l : Launch) (dC : Nat → ClassId) (dI : Nat → Nat → Nat) (cI cJ cZ : ClassId) (q : Nat → Nat)  (pw : Int → Int) (co : Int → Int) (la : Int → Int) (vo : Int → Int) (nC : Int) (par : Int → Int) (div : Int → Int) (dee : Int → Int) (use : Int → Int) (mrun : Int → Int) (nT : Int) (due : Int → Int) (lat : Int → Int) (wk : Int → Int) (nE : Int) (tk : Int → Int) (ld : Int → Int) (rule : Int) (now : Int) (st : Int) (asl : Int) (idn : Int) (idl : Int → Int) (sp : Int) (pe : Int) (tin : Int → Int) (slp : Int) (late : Int) (srv : Int) (hv : Int → Int) (av : Int) (bd : Int) (sh : Int) (mL : Int → Int) (mB : Int → Int) (thr : Int) (x1 : Int) (hx1 : zR x1) (hnC : 1 ≤ nC ∧ nC ≤ 8) (hpar : ∀ c : Int, 1 ≤ c → c < nC → 0 ≤ par c ∧ par c < c) (huse : rgZ use 8 9) (hmrun : tfZ mrun) (hde : rgZ dee 8 3) (hvo : rgZ vo 6 3) (hpw : rgZ pw 4 1000) (hco : rgZ co 4 10000) (hla : rgZ la 4 100) (hnT : 0 ≤ nT ∧ nT ≤ 12) (htd : rgZ due 12 1000000) (htl : rgZ lat 12 1000000) (htw : rgZ wk 12 50) (hnow : 0 ≤ now ∧ now ≤ 200000) (hl0 : la 0 = 0) (hmB : rgZ mB 401 100110000) : zMl l yX8_leastCost wsX8_leastCost rmX8_leastCost (dC, dI) (zT cI cJ cZ) (wM cI cJ cZ q pw co la vo nC par div dee use mrun nT due lat wk nE tk ld rule now st asl idn idl sp pe tin slp late srv hv av bd sh mL mB thr) [.ref (q 0), .int (iI x1)] (fun (r9 : Int) (u9 : Int × Int × (Int → Int) × (Int → Int) × (Int → Int)) => r9 = (u9.1) ∧ (tfZ (u9.2.2.1) ∧ (((now ≤ x1 ∧ x1 ≤ now + 400) ∧ (u9.2.1) = 0 ∧ (u9.1) = fwZ (scZ (fun n => lmZ pw co la n (dzM vo par dee use nC)) mB (x1 - now + 1)) (fun f => npZ due lat (now + f) x1 nT - now) (uZ (scZ (fun _ => -1) mL (x1 - now + 1)) 0 0) (x1 - now) (x1 - now) ∧ (u9.2.2.2.2) = (scZ (fun n => lmZ pw co la n (dzM vo par dee use nC)) mB (x1 - now + 1)) ∧ (u9.2.2.2.1) = fwZ (scZ (fun n => lmZ pw co la n (dzM vo par dee use nC)) mB (x1 - now + 1)) (fun f => npZ due lat (now + f) x1 nT - now) (uZ (scZ (fun _ => -1) mL (x1 - now + 1)) 0 0) (x1 - now)) ∨ (¬ (now ≤ x1 ∧ x1 ≤ now + 400) ∧ (u9.2.1) = 1 ∧ (u9.2.2.1) = mrun ∧ (u9.2.2.2.1) = mL ∧ (u9.2.2.2.2) = mB)))) (fun u9 : Int × Int × (Int → Int) × (Int → Int) × (Int → Int) => wM cI cJ cZ q pw co la vo nC par div dee use (u9.2.2.1) nT due lat wk nE tk ld rule now st asl idn idl sp pe tin slp late srv hv av bd sh (u9.2.2.2.1) (u9.2.2.2.2) (u9.2.1)) 0 0 := by
  refine zent_l (cc := cX8_leastCost) (maxL := 9) (ret := (some .long)) (by decide +kernel) rfl (Nat.le_of_ble_eq_true rfl) ?_
  intro p e s m below meth c A ls hE hP hK hA hD hS hl
  obtain ⟨hx, hb, hr, hml, hown, hts, hlocks, hmn⟩ := hE
  have hinX8 : ∀ w ∈ u_ws RX8 TX8 36, w ∈ wsX8_leastCost := by decide +kernel
  have hl : lv_has ls 9 [(0, .ref (q 0)), (1, .int (iI x1))] := hl
  refine z_gen (fun Q hQ => ?_)
  have hl8 : ∀ k : Int, 0 ≤ k → k < nT → 0 ≤ lat k := fun k h1 h2 => (htl k h1 (by omega)).1
  obtain ⟨d9, hd9⟩ : ∃ z, z = (dzM vo par dee use nC) := ⟨_, rfl⟩
  have hdz : 0 ≤ d9 ∧ d9 ≤ 3 := by rw [hd9]; exact dzM_r (par := par) (use := use) hvo hde hnC
  have hrun9 : tfZ (rnZ par (nC - 1) (r0Z use 8 mrun)) := rn_t (r0_t hmrun)
  have hc9 : ∀ j : Int, 0 ≤ j → j < 401 → 0 ≤ lmZ pw co la j d9 ∧ lmZ pw co la j d9 ≤ 100110000 := fun j h1 h2 => lm_r hpw hco hla hl0 hdz (by omega)
  refine lv_aload_n hx hb dX8_leastCost_0 rfl (lv_at hl 0 rfl) ?_
  refine lv_aload_n hx hb dX8_leastCost_1 rfl (lv_at hl 0 rfl) ?_
  refine lv_iload_n hx hb dX8_leastCost_2 rfl (lv_at hl 1 rfl) ?_
  refine zc_pi (va_runV (As := [.int (iI x1)]) (rest := [.ref (q 0)]) ⟨hx, hb, hml, hown, hts⟩ (kX8_isReach l dC dI cI cJ cZ q pw co la vo nC par div dee use mrun nT due lat wk nE tk ld rule now st asl idn idl sp pe tin slp late srv hv av bd sh mL mB thr x1 (by first | assumption | omega | exact b2i_01 _) (by first | assumption | omega | exact b2i_01 _)) (cwV 1 hts gX8_leastCost_X8_isReach rfl rfl rfl (by decide +kernel) ⟨Nat.le_of_ble_eq_true rfl, Nat.le_of_ble_eq_true rfl⟩) (zqV hK hP [0, 1, 2, 3, 4, 5, 6, 7, 8, 9, 10, 11, 12, 13, 14, 15, 16, 17, 18, 19] rfl 0 rfl rfl) rfl rfl hl.1 rfl (lv_room (Nat.le_of_ble_eq_true rfl)) dX8_leastCost_3 ⟨Nat.le_of_ble_eq_true rfl, Nat.le_of_ble_eq_true rfl⟩) ?_
  refine zc_i (va_runV (As := [.int (iI (b2i (now ≤ x1 ∧ x1 ≤ now + 400)))]) (rest := []) ⟨hx, hb, hml, hown, hts⟩ (kX8_asks l dC dI cI cJ cZ q pw co la vo nC par div dee use mrun nT due lat wk nE tk ld rule now st asl idn idl sp pe tin slp late srv hv av bd sh mL mB thr (b2i (now ≤ x1 ∧ x1 ≤ now + 400)) (by first | assumption | omega | exact b2i_01 _) s.heap.size) (cwV 1 hts gX8_leastCost_X8_asks rfl rfl rfl (by decide +kernel) ⟨Nat.le_of_ble_eq_true rfl, Nat.le_of_ble_eq_true rfl⟩) (zpV hK hP hD [0, 1, 2, 3, 4, 5, 6, 7, 8, 9, 10, 11, 12, 13, 14, 15, 16, 17, 18, 19] rfl rfl 0 rfl rfl) rfl rfl hl.1 rfl (lv_room (Nat.le_of_ble_eq_true rfl)) dX8_leastCost_6 ⟨Nat.le_of_ble_eq_true rfl, Nat.le_of_ble_eq_true rfl⟩) hP hD hS hA [0, 1, 2, 3, 4, 5, 6, 7, 8, 9, 10, 11, 12, 13, 14, 15, 16, 17, 18, 19] [] rfl rfl rfl (by decide) (fun v_3 u_2 H locs r_1 hP hD hS => ?_)
  refine ze_i r_1 ?_
  have hP : va_P (dC, dI) vwCl (wM cI cJ cZ q pw co la vo nC par div dee use mrun nT due lat wk nE tk ld rule now st asl idn idl sp pe tin slp late srv hv av bd sh mL mB (1 - (b2i (now ≤ x1 ∧ x1 ≤ now + 400)))) H := hP
  have hD : va_D A (wM cI cJ cZ q pw co la vo nC par div dee use mrun nT due lat wk nE tk ld rule now st asl idn idl sp pe tin slp late srv hv av bd sh mL mB (1 - (b2i (now ≤ x1 ∧ x1 ≤ now + 400)))) := hD
  refine zb_fne (tgt := 14) hx hb dX8_leastCost_9 (by decide) (fun c_4 => ?_) (fun c_4 => ?_)
  · skip
    refine lv_aload_n hx hb dX8_leastCost_14 rfl (lv_at hl 0 rfl) ?_
    refine zc_i (va_runV (As := []) (rest := []) ⟨hx, hb, hml, hown, hts⟩ (kX8_deepestNow l dC dI cI cJ cZ q pw co la vo nC par div dee use mrun nT due lat wk nE tk ld rule now st asl idn idl sp pe tin slp late srv hv av bd sh mL mB (1 - (b2i (now ≤ x1 ∧ x1 ≤ now + 400))) (by first | assumption | omega | exact b2i_01 _) (by first | assumption | omega | exact b2i_01 _) (by first | assumption | omega | exact b2i_01 _) (by first | assumption | omega | exact b2i_01 _) (by first | assumption | omega | exact b2i_01 _) (by first | assumption | omega | exact b2i_01 _) H.size) (cwV 0 hts gX8_leastCost_X8_deepestNow rfl rfl rfl (by decide +kernel) ⟨Nat.le_of_ble_eq_true rfl, Nat.le_of_ble_eq_true rfl⟩) (zpV hK hP hD [0, 1, 2, 3, 4, 5, 6, 7, 8, 9, 10, 11, 12, 13, 14, 15, 16, 17, 18, 19] rfl rfl 0 rfl rfl) rfl rfl hl.1 rfl (lv_room (Nat.le_of_ble_eq_true rfl)) dX8_leastCost_15 ⟨Nat.le_of_ble_eq_true rfl, Nat.le_of_ble_eq_true rfl⟩) hP hD hS hA [0, 1, 2, 3, 4, 5, 6, 7, 8, 9, 10, 11, 12, 13, 14, 15, 16, 17, 18, 19] [] rfl rfl rfl (by decide) (fun v_7 u_6 H locs r_5 hP hD hS => ?_)
    refine ze_i r_5 ?_
    have hP : va_P (dC, dI) vwCl (wM cI cJ cZ q pw co la vo nC par div dee use (rnZ par (nC - 1) (r0Z use 8 mrun)) nT due lat wk nE tk ld rule now st asl idn idl sp pe tin slp late srv hv av bd sh mL mB (1 - (b2i (now ≤ x1 ∧ x1 ≤ now + 400)))) H := hP
    have hD : va_D A (wM cI cJ cZ q pw co la vo nC par div dee use (rnZ par (nC - 1) (r0Z use 8 mrun)) nT due lat wk nE tk ld rule now st asl idn idl sp pe tin slp late srv hv av bd sh mL mB (1 - (b2i (now ≤ x1 ∧ x1 ≤ now + 400)))) := hD
    refine ze_i (y := d9) (by exact hd9.symm) ?_
    refine lv_istore_n (lv' := [(2, .int (iI d9)), (0, .ref (q 0)), (1, .int (iI x1))]) hx hb dX8_leastCost_18 rfl hl (by decide) rfl (fun ls hl => ?_)
    refine lv_iload_n hx hb dX8_leastCost_19 rfl (lv_at hl 2 rfl) ?_
    refine lv_aload_n hx hb dX8_leastCost_20 rfl (lv_at hl 1 rfl) ?_
    refine va_get (D := (dC, dI)) (ci := 8) (v := .int (iI now)) (C := RX8) (T := TX8) (N := 36) hx hb hts hinX8 hown hK.1 hP 0 rfl rfl 18 (by decide) (hts _ (List.mem_of_getElem? (i := 1) rfl)) (fun _ h9 => h9) rfl dX8_leastCost_21 ?_
    refine zi_sub hx hb dX8_leastCost_24 ?_
    refine lv_istore_n (lv' := [(3, .int (iI (x1 - now))), (2, .int (iI d9)), (0, .ref (q 0)), (1, .int (iI x1))]) hx hb dX8_leastCost_25 rfl hl (by decide) rfl (fun ls hl => ?_)
    refine lv_iconst (v := iI 0) hx hb dX8_leastCost_26 rfl ?_
    refine lv_istore (lv' := [(4, .int (iI 0)), (3, .int (iI (x1 - now))), (2, .int (iI d9)), (0, .ref (q 0)), (1, .int (iI x1))]) hx hb dX8_leastCost_27 hl (by decide) rfl (fun ls hl => ?_)
    have L29 : ∀ (fuel : Nat) (k9 : Int) (a9 : Int → Int) (l9 : Int → Int), (0 ≤ k9 ∧ k9 ≤ x1 - now + 1) → (now ≤ x1 ∧ x1 ≤ now + 400) → (a9 = scZ (fun n => lmZ pw co la n d9) mB k9) → (l9 = scZ (fun _ => -1) mL k9) → ((x1 - now + 1 - k9).toNat) < fuel → ∀ (H : Heap) (locs : List Loc), va_P (dC, dI) vwCl (wM cI cJ cZ q pw co la vo nC par div dee use (rnZ par (nC - 1) (r0Z use 8 mrun)) nT due lat wk nE tk ld rule now st asl idn idl sp pe tin slp late srv hv av bd sh l9 a9 (1 - (b2i (now ≤ x1 ∧ x1 ≤ now + 400)))) H → va_D A (wM cI cJ cZ q pw co la vo nC par div dee use (rnZ par (nC - 1) (r0Z use 8 mrun)) nT due lat wk nE tk ld rule now st asl idn idl sp pe tin slp late srv hv av bd sh l9 a9 (1 - (b2i (now ≤ x1 ∧ x1 ≤ now + 400)))) → va_S A s.heap H locs → ∀ ls : Array Slot, lv_has ls 9 [(4, .int (iI k9)), (3, .int (iI (x1 - now))), (2, .int (iI d9)), (0, .ref (q 0)), (1, .int (iI x1))] → W p l e rmX8_leastCost s m ([.ref (q 0), .int (iI x1)] : List Value).toArray below meth c H locs 0 0 Q (F0 m 29 ls []) := by
      intro fuel
      induction fuel with
      | zero =>
        intro k9 a9 l9 hk9 hx8 ha9 hl9 hmeas H locs hP hD hS ls hl
        exact absurd hmeas (by omega)
      | succ fuel ih29 =>
        intro k9 a9 l9 hk9 hx8 ha9 hl9 hmeas H locs hP hD hS ls hl
        refine lv_iload hx hb dX8_leastCost_29 (lv_at hl 0 rfl) ?_
        refine lv_iload_n hx hb dX8_leastCost_31 rfl (lv_at hl 1 rfl) ?_
        refine zi_cgt (tgt := 144) hx hb (by omega) (by omega) dX8_leastCost_32 (by decide) (fun c_8 => ?_) (fun c_8 => ?_)
        · skip
          refine lv_aload_n hx hb dX8_leastCost_144 rfl (lv_at hl 3 rfl) ?_
          refine va_get (D := (dC, dI)) (ci := 8) (v := .ref (q 18)) (C := RX8) (T := TX8) (N := 36) hx hb hts hinX8 hown hK.1 hP 0 rfl rfl 33 (by decide) (hts _ (List.mem_of_getElem? (i := 4) rfl)) (fun _ h9 => h9) rfl dX8_leastCost_145 ?_
          refine lv_iconst (v := iI 0) hx hb dX8_leastCost_148 rfl ?_
          refine lv_lconst (v := lI 0) hx hb dX8_leastCost_149 rfl ?_
          refine za_lst hx hb hK hP hD hS 18 1 rfl rfl (by omega) (by omega) dX8_leastCost_150 (fun H locs hP hD hS => ?_)
          have hP : va_P (dC, dI) vwCl (wM cI cJ cZ q pw co la vo nC par div dee use (rnZ par (nC - 1) (r0Z use 8 mrun)) nT due lat wk nE tk ld rule now st asl idn idl sp pe tin slp late srv hv av bd sh (uZ l9 0 0) a9 (1 - (b2i (now ≤ x1 ∧ x1 ≤ now + 400)))) H := hP
          have hD : va_D A (wM cI cJ cZ q pw co la vo nC par div dee use (rnZ par (nC - 1) (r0Z use 8 mrun)) nT due lat wk nE tk ld rule now st asl idn idl sp pe tin slp late srv hv av bd sh (uZ l9 0 0) a9 (1 - (b2i (now ≤ x1 ∧ x1 ≤ now + 400)))) := hD
          refine lv_iconst (v := iI 0) hx hb dX8_leastCost_151 rfl ?_
          refine lv_istore (lv' := [(4, .int (iI 0)), (3, .int (iI (x1 - now))), (2, .int (iI d9)), (0, .ref (q 0)), (1, .int (iI x1))]) hx hb dX8_leastCost_152 hl (by decide) rfl (fun ls hl => ?_)
          have L154 : ∀ (fuel : Nat) (f9 : Int) (mb9 : Int → Int) (m9 : Int → Int), (0 ≤ f9 ∧ f9 ≤ x1 - now) → (mb9 = scZ (fun n => lmZ pw co la n d9) mB (x1 - now + 1)) → (m9 = fwZ mb9 (fun f => npZ due lat (now + f) x1 nT - now) (uZ (scZ (fun _ => -1) mL (x1 - now + 1)) 0 0) f9) → ((x1 - now - f9).toNat) < fuel → ∀ (H : Heap) (locs : List Loc), va_P (dC, dI) vwCl (wM cI cJ cZ q pw co la vo nC par div dee use (rnZ par (nC - 1) (r0Z use 8 mrun)) nT due lat wk nE tk ld rule now st asl idn idl sp pe tin slp late srv hv av bd sh m9 mb9 (1 - (b2i (now ≤ x1 ∧ x1 ≤ now + 400)))) H → va_D A (wM cI cJ cZ q pw co la vo nC par div dee use (rnZ par (nC - 1) (r0Z use 8 mrun)) nT due lat wk nE tk ld rule now st asl idn idl sp pe tin slp late srv hv av bd sh m9 mb9 (1 - (b2i (now ≤ x1 ∧ x1 ≤ now + 400)))) → va_S A s.heap H locs → ∀ ls : Array Slot, lv_has ls 9 [(4, .int (iI f9)), (3, .int (iI (x1 - now))), (2, .int (iI d9)), (0, .ref (q 0)), (1, .int (iI x1))] → W p l e rmX8_leastCost s m ([.ref (q 0), .int (iI x1)] : List Value).toArray below meth c H locs 0 0 Q (F0 m 154 ls []) := by
            intro fuel
            induction fuel with
            | zero =>
              intro f9 mb9 m9 hf9 hmb9 hm9e hmeas H locs hP hD hS ls hl
              exact absurd hmeas (by omega)
            | succ fuel ih154 =>
              intro f9 mb9 m9 hf9 hmb9 hm9e hmeas H locs hP hD hS ls hl
              have hB9 : rgZ mb9 401 100110000 := by rw [hmb9]; exact sc_rN hc9 hmB (by omega) (by omega)
              have hw9 : mRg (x1 - now) m9 := by rw [hm9e]; exact fw_r hB9 (m0_r (by omega)) (by omega) (fun f => by have := (@np_r due lat (now + f) x1 nT hnT.1 hl8).1; show npZ due lat (now + f) x1 nT - now ≤ x1 - now; omega) hf9.1 hf9.2
              refine lv_iload hx hb dX8_leastCost_154 (lv_at hl 0 rfl) ?_
              refine lv_iload_n hx hb dX8_leastCost_156 rfl (lv_at hl 1 rfl) ?_
              refine zi_cge (tgt := 284) hx hb (by omega) (by omega) dX8_leastCost_157 (by decide) (fun c_9 => ?_) (fun c_9 => ?_)
              · skip
                refine lv_aload_n hx hb dX8_leastCost_284 rfl (lv_at hl 3 rfl) ?_
                refine va_get (D := (dC, dI)) (ci := 8) (v := .ref (q 18)) (C := RX8) (T := TX8) (N := 36) hx hb hts hinX8 hown hK.1 hP 0 rfl rfl 33 (by decide) (hts _ (List.mem_of_getElem? (i := 4) rfl)) (fun _ h9 => h9) rfl dX8_leastCost_285 ?_
                refine lv_iload_n hx hb dX8_leastCost_288 rfl (lv_at hl 1 rfl) ?_
                refine za_lld hx hb hK hP 18 1 rfl rfl (by omega) (by omega) dX8_leastCost_289 ?_
                subst hQ
                exact zret_l (W1 := fun u9 : Int × Int × (Int → Int) × (Int → Int) × (Int → Int) => wM cI cJ cZ q pw co la vo nC par div dee use (u9.2.2.1) nT due lat wk nE tk ld rule now st asl idn idl sp pe tin slp late srv hv av bd sh (u9.2.2.2.1) (u9.2.2.2.2) (u9.2.1)) (m9 (x1 - now), 1 - (b2i (now ≤ x1 ∧ x1 ≤ now + 400)), rnZ par (nC - 1) (r0Z use 8 mrun), m9, mb9) hx hb hr hP hD hS hlocks dX8_leastCost_290 (by first | (subst hd9; exact ⟨rfl, hrun9, Or.inl ⟨by omega, by (first | rfl | (rw [b2i_t (by omega)]; done) | (rw [b2i_f (by omega)]; done) | (rw [b2i_t (by omega)]; rfl) | (rw [b2i_f (by omega)]; rfl)), by rw [hm9e, hmb9, show f9 = x1 - now by omega], hmb9, by rw [hm9e, hmb9, show f9 = x1 - now by omega]⟩⟩) | exact ⟨rfl, hmrun, Or.inr ⟨by omega, by (first | rfl | (rw [b2i_t (by omega)]; done) | (rw [b2i_f (by omega)]; done) | (rw [b2i_t (by omega)]; rfl) | (rw [b2i_f (by omega)]; rfl)), rfl, rfl, rfl⟩⟩)
              · skip
                refine lv_aload_n hx hb dX8_leastCost_160 rfl (lv_at hl 3 rfl) ?_
                refine lv_aload_n hx hb dX8_leastCost_161 rfl (lv_at hl 3 rfl) ?_
                refine va_get (D := (dC, dI)) (ci := 8) (v := .int (iI now)) (C := RX8) (T := TX8) (N := 36) hx hb hts hinX8 hown hK.1 hP 0 rfl rfl 18 (by decide) (hts _ (List.mem_of_getElem? (i := 1) rfl)) (fun _ h9 => h9) rfl dX8_leastCost_162 ?_
                refine lv_iload hx hb dX8_leastCost_165 (lv_at hl 0 rfl) ?_
                refine zi_add hx hb dX8_leastCost_167 ?_
                refine lv_iload_n hx hb dX8_leastCost_168 rfl (lv_at hl 4 rfl) ?_
                refine zc_pi (va_runV (As := [.int (iI (now + f9)), .int (iI x1)]) (rest := []) ⟨hx, hb, hml, hown, hts⟩ (kX8_nextPlanned l dC dI cI cJ cZ q pw co la vo nC par div dee use (rnZ par (nC - 1) (r0Z use 8 mrun)) nT due lat wk nE tk ld rule now st asl idn idl sp pe tin slp late srv hv av bd sh m9 mb9 (1 - (b2i (now ≤ x1 ∧ x1 ≤ now + 400))) (now + f9) x1 (by first | assumption | omega | exact b2i_01 _) (by first | assumption | omega | exact b2i_01 _) (by first | assumption | omega | exact b2i_01 _) (by first | assumption | omega | exact b2i_01 _) (by first | assumption | omega | exact b2i_01 _) (by first | assumption | omega | exact b2i_01 _)) (cwV 2 hts gX8_leastCost_X8_nextPlanned rfl rfl rfl (by decide +kernel) ⟨Nat.le_of_ble_eq_true rfl, Nat.le_of_ble_eq_true rfl⟩) (zqV hK hP [0, 1, 2, 3, 4, 5, 6, 7, 8, 9, 10, 11, 12, 13, 14, 15, 16, 17, 18, 19] rfl 0 rfl rfl) rfl rfl hl.1 rfl (lv_room (Nat.le_of_ble_eq_true rfl)) dX8_leastCost_169 ⟨Nat.le_of_ble_eq_true rfl, Nat.le_of_ble_eq_true rfl⟩) ?_
                have e_10 := @np_r due lat (now + f9) x1 nT hnT.1 hl8
                refine lv_aload_n hx hb dX8_leastCost_172 rfl (lv_at hl 3 rfl) ?_
                refine va_get (D := (dC, dI)) (ci := 8) (v := .int (iI now)) (C := RX8) (T := TX8) (N := 36) hx hb hts hinX8 hown hK.1 hP 0 rfl rfl 18 (by decide) (hts _ (List.mem_of_getElem? (i := 1) rfl)) (fun _ h9 => h9) rfl dX8_leastCost_173 ?_
                refine zi_sub hx hb dX8_leastCost_176 ?_
                refine lv_istore (lv' := [(5, .int (iI ((npZ due lat (now + f9) x1 nT) - now))), (4, .int (iI f9)), (3, .int (iI (x1 - now))), (2, .int (iI d9)), (0, .ref (q 0)), (1, .int (iI x1))]) hx hb dX8_leastCost_177 hl (by decide) rfl (fun ls hl => ?_)
                refine lv_iload hx hb dX8_leastCost_179 (lv_at hl 1 rfl) ?_
                refine lv_iconst (v := iI 1) hx hb dX8_leastCost_181 rfl ?_
                refine zi_add hx hb dX8_leastCost_182 ?_
                refine lv_istore (lv' := [(6, .int (iI (f9 + 1))), (5, .int (iI ((npZ due lat (now + f9) x1 nT) - now))), (4, .int (iI f9)), (3, .int (iI (x1 - now))), (2, .int (iI d9)), (0, .ref (q 0)), (1, .int (iI x1))]) hx hb dX8_leastCost_183 hl (by decide) rfl (fun ls hl => ?_)
                have L185 : ∀ (fuel : Nat) (t9 : Int) (p9 : Int) (n9 : Int → Int), (p9 = npZ due lat (now + f9) x1 nT - now) → (p9 ≤ x1 - now) → (f9 + 1 ≤ t9 ∧ (t9 ≤ p9 + 1 ∨ t9 = f9 + 1)) → (f9 < x1 - now) → (t9 = f9 + 1 ∨ m9 f9 ≠ -1) → (n9 = fiZ mb9 f9 m9 (t9 - (f9 + 1))) → ((x1 - now + 1 - t9).toNat) < fuel → ∀ (H : Heap) (locs : List Loc), va_P (dC, dI) vwCl (wM cI cJ cZ q pw co la vo nC par div dee use (rnZ par (nC - 1) (r0Z use 8 mrun)) nT due lat wk nE tk ld rule now st asl idn idl sp pe tin slp late srv hv av bd sh n9 mb9 (1 - (b2i (now ≤ x1 ∧ x1 ≤ now + 400)))) H → va_D A (wM cI cJ cZ q pw co la vo nC par div dee use (rnZ par (nC - 1) (r0Z use 8 mrun)) nT due lat wk nE tk ld rule now st asl idn idl sp pe tin slp late srv hv av bd sh n9 mb9 (1 - (b2i (now ≤ x1 ∧ x1 ≤ now + 400)))) → va_S A s.heap H locs → ∀ ls : Array Slot, lv_has ls 9 [(6, .int (iI t9)), (5, .int (iI p9)), (4, .int (iI f9)), (3, .int (iI (x1 - now))), (2, .int (iI d9)), (0, .ref (q 0)), (1, .int (iI x1))] → W p l e rmX8_leastCost s m ([.ref (q 0), .int (iI x1)] : List Value).toArray below meth c H locs 0 0 Q (F0 m 185 ls []) := by
                  intro fuel
                  induction fuel with
                  | zero =>
                    intro t9 p9 n9 hp9 hp8 ht9 hf8 hne9 hn9e hmeas H locs hP hD hS ls hl
                    exact absurd hmeas (by omega)
                  | succ fuel ih185 =>
                    intro t9 p9 n9 hp9 hp8 ht9 hf8 hne9 hn9e hmeas H locs hP hD hS ls hl
                    obtain ⟨hr9, hlo9⟩ := fi_r2 (n := x1 - now) hn9e hB9 hw9 (by omega) hf9.1 ht9.1 hne9 (by omega)
                    refine lv_iload hx hb dX8_leastCost_185 (lv_at hl 0 rfl) ?_
                    refine lv_iload hx hb dX8_leastCost_187 (lv_at hl 1 rfl) ?_
                    refine zi_cgt (tgt := 278) hx hb (by omega) (by omega) dX8_leastCost_189 (by decide) (fun c_11 => ?_) (fun c_11 => ?_)
                    · skip
                      refine lv_iinc (v := iI (f9 + 1)) (lv' := [(4, .int (iI (f9 + 1))), (6, .int (iI t9)), (5, .int (iI p9)), (3, .int (iI (x1 - now))), (2, .int (iI d9)), (0, .ref (q 0)), (1, .int (iI x1))]) hx hb dX8_leastCost_278 hl (k := 2) rfl (iI_add _ _) (by decide) rfl (fun ls hl => ?_)
                      refine lv_goto (tgt := 154) hx hb dX8_leastCost_281 (by decide) ?_
                      exact ih154 (f9 + 1) mb9 n9 (by omega) (hmb9) (fw_n hf9.1 hm9e hn9e hp9 hne9 ht9 (by first | exact Or.inl (by omega) | exact Or.inr (by omega))) (by omega) H locs hP hD hS ls (lv_sub hl [0, 3, 4, 5, 6] rfl)
                    · skip
                      refine lv_aload_n hx hb dX8_leastCost_192 rfl (lv_at hl 5 rfl) ?_
                      refine va_get (D := (dC, dI)) (ci := 8) (v := .ref (q 18)) (C := RX8) (T := TX8) (N := 36) hx hb hts hinX8 hown hK.1 hP 0 rfl rfl 33 (by decide) (hts _ (List.mem_of_getElem? (i := 4) rfl)) (fun _ h9 => h9) rfl dX8_leastCost_193 ?_
                      refine lv_iload hx hb dX8_leastCost_196 (lv_at hl 2 rfl) ?_
                      refine za_lld hx hb hK hP 18 1 rfl rfl (by omega) (by omega) dX8_leastCost_198 ?_
                      have e_12 := hr9 f9 (by omega) (by omega)
                      refine lv_ldc2 (v := lI (-1)) hx hb hown (hts _ (List.mem_of_getElem? (i := 5) rfl)) dX8_leastCost_199 ?_
                      refine zl_ceq (tgt := 278) hx hb (by omega) (by omega) dX8_leastCost_202 dX8_leastCost_203 (by decide) (fun c_13 => ?_) (fun c_13 => ?_)
                      · skip
                        refine lv_iinc (v := iI (f9 + 1)) (lv' := [(4, .int (iI (f9 + 1))), (6, .int (iI t9)), (5, .int (iI p9)), (3, .int (iI (x1 - now))), (2, .int (iI d9)), (0, .ref (q 0)), (1, .int (iI x1))]) hx hb dX8_leastCost_278 hl (k := 2) rfl (iI_add _ _) (by decide) rfl (fun ls hl => ?_)
                        refine lv_goto (tgt := 154) hx hb dX8_leastCost_281 (by decide) ?_
                        exact ih154 (f9 + 1) mb9 n9 (by omega) (hmb9) (fw_n hf9.1 hm9e hn9e hp9 hne9 ht9 (by first | exact Or.inl (by omega) | exact Or.inr (by omega))) (by omega) H locs hP hD hS ls (lv_sub hl [0, 3, 4, 5, 6] rfl)
                      · skip
                        refine lv_aload_n hx hb dX8_leastCost_206 rfl (lv_at hl 5 rfl) ?_
                        refine va_get (D := (dC, dI)) (ci := 8) (v := .ref (q 18)) (C := RX8) (T := TX8) (N := 36) hx hb hts hinX8 hown hK.1 hP 0 rfl rfl 33 (by decide) (hts _ (List.mem_of_getElem? (i := 4) rfl)) (fun _ h9 => h9) rfl dX8_leastCost_207 ?_
                        refine lv_iload hx hb dX8_leastCost_210 (lv_at hl 2 rfl) ?_
                        refine za_lld hx hb hK hP 18 1 rfl rfl (by omega) (by omega) dX8_leastCost_212 ?_
                        have e_14 := hr9 f9 (by omega) (by omega)
                        refine lv_aload_n hx hb dX8_leastCost_213 rfl (lv_at hl 5 rfl) ?_
                        refine va_get (D := (dC, dI)) (ci := 8) (v := .ref (q 19)) (C := RX8) (T := TX8) (N := 36) hx hb hts hinX8 hown hK.1 hP 0 rfl rfl 34 (by decide) (hts _ (List.mem_of_getElem? (i := 2) rfl)) (fun _ h9 => h9) rfl dX8_leastCost_214 ?_
                        refine lv_iload hx hb dX8_leastCost_217 (lv_at hl 0 rfl) ?_
                        refine lv_iload hx hb dX8_leastCost_219 (lv_at hl 2 rfl) ?_
                        refine zi_sub hx hb dX8_leastCost_221 ?_
                        refine za_lld hx hb hK hP 19 1 rfl rfl (by omega) (by omega) dX8_leastCost_222 ?_
                        have e_15 := hB9 (t9 - f9) (by omega) (by omega)
                        refine zl_add hx hb dX8_leastCost_223 ?_
                        refine lv_lstore (lv' := [(7, .long (lI ((n9 f9) + (mb9 (t9 - f9))))), (6, .int (iI t9)), (5, .int (iI p9)), (4, .int (iI f9)), (3, .int (iI (x1 - now))), (2, .int (iI d9)), (0, .ref (q 0)), (1, .int (iI x1))]) hx hb dX8_leastCost_224 hl (by decide) rfl (fun ls hl => ?_)
                        refine lv_aload_n hx hb dX8_leastCost_226 rfl (lv_at hl 6 rfl) ?_
                        refine va_get (D := (dC, dI)) (ci := 8) (v := .ref (q 18)) (C := RX8) (T := TX8) (N := 36) hx hb hts hinX8 hown hK.1 hP 0 rfl rfl 33 (by decide) (hts _ (List.mem_of_getElem? (i := 4) rfl)) (fun _ h9 => h9) rfl dX8_leastCost_227 ?_
                        refine lv_iload hx hb dX8_leastCost_230 (lv_at hl 1 rfl) ?_
                        refine lv_aload_n hx hb dX8_leastCost_232 rfl (lv_at hl 6 rfl) ?_
                        refine va_get (D := (dC, dI)) (ci := 8) (v := .ref (q 18)) (C := RX8) (T := TX8) (N := 36) hx hb hts hinX8 hown hK.1 hP 0 rfl rfl 33 (by decide) (hts _ (List.mem_of_getElem? (i := 4) rfl)) (fun _ h9 => h9) rfl dX8_leastCost_233 ?_
                        refine lv_iload hx hb dX8_leastCost_236 (lv_at hl 1 rfl) ?_
                        refine za_lld hx hb hK hP 18 1 rfl rfl (by omega) (by omega) dX8_leastCost_238 ?_
                        have e_16 := hr9 t9 (by omega) (by omega)
                        refine lv_ldc2 (v := lI (-1)) hx hb hown (hts _ (List.mem_of_getElem? (i := 5) rfl)) dX8_leastCost_239 ?_
                        refine zl_ceq (tgt := 259) hx hb (by omega) (by omega) dX8_leastCost_242 dX8_leastCost_243 (by decide) (fun c_17 => ?_) (fun c_17 => ?_)
                        · skip
                          refine lv_lload hx hb dX8_leastCost_259 (lv_at hl 0 rfl) ?_
                          refine lv_goto (tgt := 271) hx hb dX8_leastCost_261 (by decide) ?_
                          refine za_lst hx hb hK hP hD hS 18 1 rfl rfl (by omega) (by omega) dX8_leastCost_271 (fun H locs hP hD hS => ?_)
                          have hP : va_P (dC, dI) vwCl (wM cI cJ cZ q pw co la vo nC par div dee use (rnZ par (nC - 1) (r0Z use 8 mrun)) nT due lat wk nE tk ld rule now st asl idn idl sp pe tin slp late srv hv av bd sh (uZ n9 t9 ((n9 f9) + (mb9 (t9 - f9)))) mb9 (1 - (b2i (now ≤ x1 ∧ x1 ≤ now + 400)))) H := hP
                          have hD : va_D A (wM cI cJ cZ q pw co la vo nC par div dee use (rnZ par (nC - 1) (r0Z use 8 mrun)) nT due lat wk nE tk ld rule now st asl idn idl sp pe tin slp late srv hv av bd sh (uZ n9 t9 ((n9 f9) + (mb9 (t9 - f9)))) mb9 (1 - (b2i (now ≤ x1 ∧ x1 ≤ now + 400)))) := hD
                          refine lv_iinc (v := iI (t9 + 1)) (lv' := [(6, .int (iI (t9 + 1))), (7, .long (lI ((n9 f9) + (mb9 (t9 - f9))))), (5, .int (iI p9)), (4, .int (iI f9)), (3, .int (iI (x1 - now))), (2, .int (iI d9)), (0, .ref (q 0)), (1, .int (iI x1))]) hx hb dX8_leastCost_272 hl (k := 1) rfl (iI_add _ _) (by decide) rfl (fun ls hl => ?_)
                          refine lv_goto (tgt := 185) hx hb dX8_leastCost_275 (by decide) ?_
                          exact ih185 (t9 + 1) p9 (uZ n9 t9 ((n9 f9) + (mb9 (t9 - f9)))) (hp9) (hp8) (by omega) (by omega) (Or.inr (by omega)) (fi_n ht9.1 hn9e (by first | exact (if_pos (by omega)).symm | exact (if_neg (by omega)).symm)) (by omega) H locs hP hD hS ls (lv_sub hl [0, 2, 3, 4, 5, 6, 7] rfl)
                        · skip
                          refine lv_lload hx hb dX8_leastCost_246 (lv_at hl 0 rfl) ?_
                          refine lv_aload_n hx hb dX8_leastCost_248 rfl (lv_at hl 6 rfl) ?_
                          refine va_get (D := (dC, dI)) (ci := 8) (v := .ref (q 18)) (C := RX8) (T := TX8) (N := 36) hx hb hts hinX8 hown hK.1 hP 0 rfl rfl 33 (by decide) (hts _ (List.mem_of_getElem? (i := 4) rfl)) (fun _ h9 => h9) rfl dX8_leastCost_249 ?_
                          refine lv_iload hx hb dX8_leastCost_252 (lv_at hl 1 rfl) ?_
                          refine za_lld hx hb hK hP 18 1 rfl rfl (by omega) (by omega) dX8_leastCost_254 ?_
                          have e_18 := hr9 t9 (by omega) (by omega)
                          refine zl_cge (tgt := 264) hx hb (by omega) (by omega) dX8_leastCost_255 dX8_leastCost_256 (by decide) (fun c_19 => ?_) (fun c_19 => ?_)
                          · skip
                            refine lv_aload_n hx hb dX8_leastCost_264 rfl (lv_at hl 6 rfl) ?_
                            refine va_get (D := (dC, dI)) (ci := 8) (v := .ref (q 18)) (C := RX8) (T := TX8) (N := 36) hx hb hts hinX8 hown hK.1 hP 0 rfl rfl 33 (by decide) (hts _ (List.mem_of_getElem? (i := 4) rfl)) (fun _ h9 => h9) rfl dX8_leastCost_265 ?_
                            refine lv_iload hx hb dX8_leastCost_268 (lv_at hl 1 rfl) ?_
                            refine za_lld hx hb hK hP 18 1 rfl rfl (by omega) (by omega) dX8_leastCost_270 ?_
                            have e_20 := hr9 t9 (by omega) (by omega)
                            refine za_lst hx hb hK hP hD hS 18 1 rfl rfl (by omega) (by omega) dX8_leastCost_271 (fun H locs hP hD hS => ?_)
                            have hP : va_P (dC, dI) vwCl (wM cI cJ cZ q pw co la vo nC par div dee use (rnZ par (nC - 1) (r0Z use 8 mrun)) nT due lat wk nE tk ld rule now st asl idn idl sp pe tin slp late srv hv av bd sh (uZ n9 t9 (n9 t9)) mb9 (1 - (b2i (now ≤ x1 ∧ x1 ≤ now + 400)))) H := hP
                            have hD : va_D A (wM cI cJ cZ q pw co la vo nC par div dee use (rnZ par (nC - 1) (r0Z use 8 mrun)) nT due lat wk nE tk ld rule now st asl idn idl sp pe tin slp late srv hv av bd sh (uZ n9 t9 (n9 t9)) mb9 (1 - (b2i (now ≤ x1 ∧ x1 ≤ now + 400)))) := hD
                            refine lv_iinc (v := iI (t9 + 1)) (lv' := [(6, .int (iI (t9 + 1))), (7, .long (lI ((n9 f9) + (mb9 (t9 - f9))))), (5, .int (iI p9)), (4, .int (iI f9)), (3, .int (iI (x1 - now))), (2, .int (iI d9)), (0, .ref (q 0)), (1, .int (iI x1))]) hx hb dX8_leastCost_272 hl (k := 1) rfl (iI_add _ _) (by decide) rfl (fun ls hl => ?_)
                            refine lv_goto (tgt := 185) hx hb dX8_leastCost_275 (by decide) ?_
                            exact ih185 (t9 + 1) p9 (uZ n9 t9 (n9 t9)) (hp9) (hp8) (by omega) (by omega) (Or.inr (by omega)) (fi_n ht9.1 hn9e (by first | exact (if_pos (by omega)).symm | exact (if_neg (by omega)).symm)) (by omega) H locs hP hD hS ls (lv_sub hl [0, 2, 3, 4, 5, 6, 7] rfl)
                          · skip
                            refine lv_lload hx hb dX8_leastCost_259 (lv_at hl 0 rfl) ?_
                            refine lv_goto (tgt := 271) hx hb dX8_leastCost_261 (by decide) ?_
                            refine za_lst hx hb hK hP hD hS 18 1 rfl rfl (by omega) (by omega) dX8_leastCost_271 (fun H locs hP hD hS => ?_)
                            have hP : va_P (dC, dI) vwCl (wM cI cJ cZ q pw co la vo nC par div dee use (rnZ par (nC - 1) (r0Z use 8 mrun)) nT due lat wk nE tk ld rule now st asl idn idl sp pe tin slp late srv hv av bd sh (uZ n9 t9 ((n9 f9) + (mb9 (t9 - f9)))) mb9 (1 - (b2i (now ≤ x1 ∧ x1 ≤ now + 400)))) H := hP
                            have hD : va_D A (wM cI cJ cZ q pw co la vo nC par div dee use (rnZ par (nC - 1) (r0Z use 8 mrun)) nT due lat wk nE tk ld rule now st asl idn idl sp pe tin slp late srv hv av bd sh (uZ n9 t9 ((n9 f9) + (mb9 (t9 - f9)))) mb9 (1 - (b2i (now ≤ x1 ∧ x1 ≤ now + 400)))) := hD
                            refine lv_iinc (v := iI (t9 + 1)) (lv' := [(6, .int (iI (t9 + 1))), (7, .long (lI ((n9 f9) + (mb9 (t9 - f9))))), (5, .int (iI p9)), (4, .int (iI f9)), (3, .int (iI (x1 - now))), (2, .int (iI d9)), (0, .ref (q 0)), (1, .int (iI x1))]) hx hb dX8_leastCost_272 hl (k := 1) rfl (iI_add _ _) (by decide) rfl (fun ls hl => ?_)
                            refine lv_goto (tgt := 185) hx hb dX8_leastCost_275 (by decide) ?_
                            exact ih185 (t9 + 1) p9 (uZ n9 t9 ((n9 f9) + (mb9 (t9 - f9)))) (hp9) (hp8) (by omega) (by omega) (Or.inr (by omega)) (fi_n ht9.1 hn9e (by first | exact (if_pos (by omega)).symm | exact (if_neg (by omega)).symm)) (by omega) H locs hP hD hS ls (lv_sub hl [0, 2, 3, 4, 5, 6, 7] rfl)
                have w_21 : (npZ due lat (now + f9) x1 nT - now) = ((npZ due lat (now + f9) x1 nT) - now) := by first | rfl | omega
                have hl : lv_has ls 9 [(6, .int (iI (f9 + 1))), (5, .int (iI (npZ due lat (now + f9) x1 nT - now))), (4, .int (iI f9)), (3, .int (iI (x1 - now))), (2, .int (iI d9)), (0, .ref (q 0)), (1, .int (iI x1))] := by rw [w_21]; exact hl
                exact L185 (_ + 1) (f9 + 1) (npZ due lat (now + f9) x1 nT - now) m9 (rfl) (by have := (@np_r due lat (now + f9) x1 nT hnT.1 hl8).1; omega) (by omega) (by omega) (Or.inl rfl) (by rw [Int.sub_self]; rfl) (Nat.lt_succ_self _) H locs hP hD hS ls (lv_sub hl [0, 1, 2, 3, 4, 5, 6] rfl)
          exact L154 (_ + 1) 0 a9 (uZ l9 0 0) (by omega) (by rw [ha9, show k9 = x1 - now + 1 by omega]) (by rw [fw_0, hl9, show k9 = x1 - now + 1 by omega]) (Nat.lt_succ_self _) H locs hP hD hS ls (lv_sub hl [0, 1, 2, 3, 4] rfl)
        · skip
          refine lv_aload_n hx hb dX8_leastCost_35 rfl (lv_at hl 3 rfl) ?_
          refine va_get (D := (dC, dI)) (ci := 8) (v := .ref (q 19)) (C := RX8) (T := TX8) (N := 36) hx hb hts hinX8 hown hK.1 hP 0 rfl rfl 34 (by decide) (hts _ (List.mem_of_getElem? (i := 2) rfl)) (fun _ h9 => h9) rfl dX8_leastCost_36 ?_
          refine lv_iload hx hb dX8_leastCost_39 (lv_at hl 0 rfl) ?_
          refine lv_aload_n hx hb dX8_leastCost_41 rfl (lv_at hl 3 rfl) ?_
          refine lv_iconst (v := iI 0) hx hb dX8_leastCost_42 rfl ?_
          refine lv_iload hx hb dX8_leastCost_43 (lv_at hl 0 rfl) ?_
          refine zc_pl (va_runV (As := [.int (iI 0), .int (iI k9)]) (rest := [.int (iI k9), .ref (q 19)]) ⟨hx, hb, hml, hown, hts⟩ (kX8_idleCost l dC dI cI cJ cZ q pw co la vo nC par div dee use (rnZ par (nC - 1) (r0Z use 8 mrun)) nT due lat wk nE tk ld rule now st asl idn idl sp pe tin slp late srv hv av bd sh l9 a9 (1 - (b2i (now ≤ x1 ∧ x1 ≤ now + 400))) 0 k9 (by first | assumption | omega | exact b2i_01 _) (by first | assumption | omega | exact b2i_01 _) (by first | assumption | omega | exact b2i_01 _) (by first | assumption | omega | exact b2i_01 _) (by first | assumption | omega | exact b2i_01 _)) (cwV 2 hts gX8_leastCost_X8_idleCost rfl rfl rfl (by decide +kernel) ⟨Nat.le_of_ble_eq_true rfl, Nat.le_of_ble_eq_true rfl⟩) (zqV hK hP [0, 1, 2, 3, 4, 5, 6, 7, 8, 9, 10, 11, 12, 13, 14, 15, 16, 17, 18, 19] rfl 0 rfl rfl) rfl rfl hl.1 rfl (lv_room (Nat.le_of_ble_eq_true rfl)) dX8_leastCost_45 ⟨Nat.le_of_ble_eq_true rfl, Nat.le_of_ble_eq_true rfl⟩) ?_
          have hm9 := mc_r (pw := pw) (co := co) (la := la) (s := 0) (n := k9) hpw hco hla (by omega) (by omega)
          refine za_lst hx hb hK hP hD hS 19 1 rfl rfl (by omega) (by omega) dX8_leastCost_48 (fun H locs hP hD hS => ?_)
          have hP : va_P (dC, dI) vwCl (wM cI cJ cZ q pw co la vo nC par div dee use (rnZ par (nC - 1) (r0Z use 8 mrun)) nT due lat wk nE tk ld rule now st asl idn idl sp pe tin slp late srv hv av bd sh l9 (uZ a9 k9 (mcZ pw co la 0 k9)) (1 - (b2i (now ≤ x1 ∧ x1 ≤ now + 400)))) H := hP
          have hD : va_D A (wM cI cJ cZ q pw co la vo nC par div dee use (rnZ par (nC - 1) (r0Z use 8 mrun)) nT due lat wk nE tk ld rule now st asl idn idl sp pe tin slp late srv hv av bd sh l9 (uZ a9 k9 (mcZ pw co la 0 k9)) (1 - (b2i (now ≤ x1 ∧ x1 ≤ now + 400)))) := hD
          refine lv_iconst (v := iI 1) hx hb dX8_leastCost_49 rfl ?_
          refine lv_istore (lv' := [(5, .int (iI 1)), (4, .int (iI k9)), (3, .int (iI (x1 - now))), (2, .int (iI d9)), (0, .ref (q 0)), (1, .int (iI x1))]) hx hb dX8_leastCost_50 hl (by decide) rfl (fun ls hl => ?_)
          have L52 : ∀ (fuel : Nat) (s9 : Int) (x9 : Int), (1 ≤ s9 ∧ s9 ≤ d9 + 1) → (0 ≤ x9 ∧ x9 ≤ 100110000) → (x9 = foZ (lmF pw co la k9) (mcZ pw co la 0 k9) (s9 - 1)) → ((d9 + 1 - s9).toNat) < fuel → ∀ (H : Heap) (locs : List Loc), va_P (dC, dI) vwCl (wM cI cJ cZ q pw co la vo nC par div dee use (rnZ par (nC - 1) (r0Z use 8 mrun)) nT due lat wk nE tk ld rule now st asl idn idl sp pe tin slp late srv hv av bd sh l9 (uZ a9 k9 x9) (1 - (b2i (now ≤ x1 ∧ x1 ≤ now + 400)))) H → va_D A (wM cI cJ cZ q pw co la vo nC par div dee use (rnZ par (nC - 1) (r0Z use 8 mrun)) nT due lat wk nE tk ld rule now st asl idn idl sp pe tin slp late srv hv av bd sh l9 (uZ a9 k9 x9) (1 - (b2i (now ≤ x1 ∧ x1 ≤ now + 400)))) → va_S A s.heap H locs → ∀ ls : Array Slot, lv_has ls 9 [(5, .int (iI s9)), (4, .int (iI k9)), (3, .int (iI (x1 - now))), (2, .int (iI d9)), (0, .ref (q 0)), (1, .int (iI x1))] → W p l e rmX8_leastCost s m ([.ref (q 0), .int (iI x1)] : List Value).toArray below meth c H locs 0 0 Q (F0 m 52 ls []) := by
            intro fuel
            induction fuel with
            | zero =>
              intro s9 x9 hs9 hx9 hI hmeas H locs hP hD hS ls hl
              exact absurd hmeas (by omega)
            | succ fuel ih52 =>
              intro s9 x9 hs9 hx9 hI hmeas H locs hP hD hS ls hl
              refine lv_iload hx hb dX8_leastCost_52 (lv_at hl 0 rfl) ?_
              refine lv_iload_n hx hb dX8_leastCost_54 rfl (lv_at hl 3 rfl) ?_
              refine zi_cgt (tgt := 128) hx hb (by omega) (by omega) dX8_leastCost_55 (by decide) (fun c_22 => ?_) (fun c_22 => ?_)
              · skip
                refine lv_aload_n hx hb dX8_leastCost_128 rfl (lv_at hl 4 rfl) ?_
                refine va_get (D := (dC, dI)) (ci := 8) (v := .ref (q 18)) (C := RX8) (T := TX8) (N := 36) hx hb hts hinX8 hown hK.1 hP 0 rfl rfl 33 (by decide) (hts _ (List.mem_of_getElem? (i := 4) rfl)) (fun _ h9 => h9) rfl dX8_leastCost_129 ?_
                refine lv_iload hx hb dX8_leastCost_132 (lv_at hl 1 rfl) ?_
                refine lv_ldc2 (v := lI (-1)) hx hb hown (hts _ (List.mem_of_getElem? (i := 5) rfl)) dX8_leastCost_134 ?_
                refine za_lst hx hb hK hP hD hS 18 1 rfl rfl (by omega) (by omega) dX8_leastCost_137 (fun H locs hP hD hS => ?_)
                have hP : va_P (dC, dI) vwCl (wM cI cJ cZ q pw co la vo nC par div dee use (rnZ par (nC - 1) (r0Z use 8 mrun)) nT due lat wk nE tk ld rule now st asl idn idl sp pe tin slp late srv hv av bd sh (uZ l9 k9 (-1)) (uZ a9 k9 x9) (1 - (b2i (now ≤ x1 ∧ x1 ≤ now + 400)))) H := hP
                have hD : va_D A (wM cI cJ cZ q pw co la vo nC par div dee use (rnZ par (nC - 1) (r0Z use 8 mrun)) nT due lat wk nE tk ld rule now st asl idn idl sp pe tin slp late srv hv av bd sh (uZ l9 k9 (-1)) (uZ a9 k9 x9) (1 - (b2i (now ≤ x1 ∧ x1 ≤ now + 400)))) := hD
                refine lv_iinc (v := iI (k9 + 1)) (lv' := [(4, .int (iI (k9 + 1))), (5, .int (iI s9)), (3, .int (iI (x1 - now))), (2, .int (iI d9)), (0, .ref (q 0)), (1, .int (iI x1))]) hx hb dX8_leastCost_138 hl (k := 1) rfl (iI_add _ _) (by decide) rfl (fun ls hl => ?_)
                refine lv_goto (tgt := 29) hx hb dX8_leastCost_141 (by decide) ?_
                exact ih29 (k9 + 1) (uZ a9 k9 x9) (uZ l9 k9 (-1)) (by omega) (by omega) (by rw [sc_s _ _ hk9.1, ← ha9, hI, show s9 - 1 = d9 by omega]; rfl) (by rw [sc_s _ _ hk9.1, ← hl9]) (by omega) H locs hP hD hS ls (lv_sub hl [0, 2, 3, 4, 5] rfl)
              · skip
                refine lv_aload_n hx hb dX8_leastCost_58 rfl (lv_at hl 4 rfl) ?_
                refine va_get (D := (dC, dI)) (ci := 8) (v := .ref (q 3)) (C := RX8) (T := TX8) (N := 36) hx hb hts hinX8 hown hK.1 hP 0 rfl rfl 2 (by decide) (hts _ (List.mem_of_getElem? (i := 3) rfl)) (fun _ h9 => h9) rfl dX8_leastCost_59 ?_
                refine lv_iload hx hb dX8_leastCost_62 (lv_at hl 0 rfl) ?_
                refine za_ld hx hb hK hP 3 0 rfl rfl (by omega) (by omega) dX8_leastCost_64 ?_
                have e_23 := hla s9 (by omega) (by omega)
                refine lv_iload hx hb dX8_leastCost_65 (lv_at hl 1 rfl) ?_
                refine zi_cgt (tgt := 81) hx hb (by omega) (by omega) dX8_leastCost_67 (by decide) (fun c_24 => ?_) (fun c_24 => ?_)
                · skip
                  refine lv_aload_n hx hb dX8_leastCost_81 rfl (lv_at hl 4 rfl) ?_
                  refine va_get (D := (dC, dI)) (ci := 8) (v := .ref (q 19)) (C := RX8) (T := TX8) (N := 36) hx hb hts hinX8 hown hK.1 hP 0 rfl rfl 34 (by decide) (hts _ (List.mem_of_getElem? (i := 2) rfl)) (fun _ h9 => h9) rfl dX8_leastCost_82 ?_
                  refine lv_iload hx hb dX8_leastCost_85 (lv_at hl 1 rfl) ?_
                  refine za_lld hx hb hK hP 19 1 rfl rfl (by omega) (by omega) dX8_leastCost_87 ?_
                  refine ze_l (y := x9) (by exact uZ_s _ _ _) ?_
                  refine lv_lstore (lv' := [(6, .long (lI x9)), (5, .int (iI s9)), (4, .int (iI k9)), (3, .int (iI (x1 - now))), (2, .int (iI d9)), (0, .ref (q 0)), (1, .int (iI x1))]) hx hb dX8_leastCost_88 hl (by decide) rfl (fun ls hl => ?_)
                  refine lv_aload_n hx hb dX8_leastCost_90 rfl (lv_at hl 5 rfl) ?_
                  refine va_get (D := (dC, dI)) (ci := 8) (v := .ref (q 19)) (C := RX8) (T := TX8) (N := 36) hx hb hts hinX8 hown hK.1 hP 0 rfl rfl 34 (by decide) (hts _ (List.mem_of_getElem? (i := 2) rfl)) (fun _ h9 => h9) rfl dX8_leastCost_91 ?_
                  refine lv_iload hx hb dX8_leastCost_94 (lv_at hl 2 rfl) ?_
                  refine lv_lload hx hb dX8_leastCost_96 (lv_at hl 0 rfl) ?_
                  refine lv_aload_n hx hb dX8_leastCost_98 rfl (lv_at hl 5 rfl) ?_
                  refine va_get (D := (dC, dI)) (ci := 8) (v := .ref (q 19)) (C := RX8) (T := TX8) (N := 36) hx hb hts hinX8 hown hK.1 hP 0 rfl rfl 34 (by decide) (hts _ (List.mem_of_getElem? (i := 2) rfl)) (fun _ h9 => h9) rfl dX8_leastCost_99 ?_
                  refine lv_iload hx hb dX8_leastCost_102 (lv_at hl 2 rfl) ?_
                  refine za_lld hx hb hK hP 19 1 rfl rfl (by omega) (by omega) dX8_leastCost_104 ?_
                  refine ze_l (y := x9) (by exact uZ_s _ _ _) ?_
                  refine zl_cge (tgt := 114) hx hb (by omega) (by omega) dX8_leastCost_105 dX8_leastCost_106 (by decide) (fun c_25 => ?_) (fun c_25 => ?_)
                  · skip
                    refine lv_aload_n hx hb dX8_leastCost_114 rfl (lv_at hl 5 rfl) ?_
                    refine va_get (D := (dC, dI)) (ci := 8) (v := .ref (q 19)) (C := RX8) (T := TX8) (N := 36) hx hb hts hinX8 hown hK.1 hP 0 rfl rfl 34 (by decide) (hts _ (List.mem_of_getElem? (i := 2) rfl)) (fun _ h9 => h9) rfl dX8_leastCost_115 ?_
                    refine lv_iload hx hb dX8_leastCost_118 (lv_at hl 2 rfl) ?_
                    refine za_lld hx hb hK hP 19 1 rfl rfl (by omega) (by omega) dX8_leastCost_120 ?_
                    refine ze_l (y := x9) (by exact uZ_s _ _ _) ?_
                    refine za_lst hx hb hK hP hD hS 19 1 rfl rfl (by omega) (by omega) dX8_leastCost_121 (fun H locs hP hD hS => ?_)
                    have hP : va_P (dC, dI) vwCl (wM cI cJ cZ q pw co la vo nC par div dee use (rnZ par (nC - 1) (r0Z use 8 mrun)) nT due lat wk nE tk ld rule now st asl idn idl sp pe tin slp late srv hv av bd sh l9 (uZ (uZ a9 k9 x9) k9 x9) (1 - (b2i (now ≤ x1 ∧ x1 ≤ now + 400)))) H := hP
                    have hD : va_D A (wM cI cJ cZ q pw co la vo nC par div dee use (rnZ par (nC - 1) (r0Z use 8 mrun)) nT due lat wk nE tk ld rule now st asl idn idl sp pe tin slp late srv hv av bd sh l9 (uZ (uZ a9 k9 x9) k9 x9) (1 - (b2i (now ≤ x1 ∧ x1 ≤ now + 400)))) := hD
                    refine lv_iinc (v := iI (s9 + 1)) (lv' := [(5, .int (iI (s9 + 1))), (6, .long (lI x9)), (4, .int (iI k9)), (3, .int (iI (x1 - now))), (2, .int (iI d9)), (0, .ref (q 0)), (1, .int (iI x1))]) hx hb dX8_leastCost_122 hl (k := 1) rfl (iI_add _ _) (by decide) rfl (fun ls hl => ?_)
                    refine lv_goto (tgt := 52) hx hb dX8_leastCost_125 (by decide) ?_
                    have w_26 : (uZ a9 k9 x9) = (uZ (uZ a9 k9 x9) k9 x9) := by exact (uZ_u2 _ _ _ _).symm
                    have hP : va_P (dC, dI) vwCl (wM cI cJ cZ q pw co la vo nC par div dee use (rnZ par (nC - 1) (r0Z use 8 mrun)) nT due lat wk nE tk ld rule now st asl idn idl sp pe tin slp late srv hv av bd sh l9 (uZ a9 k9 x9) (1 - (b2i (now ≤ x1 ∧ x1 ≤ now + 400)))) H := by rw [w_26]; exact hP
                    have hD : va_D A (wM cI cJ cZ q pw co la vo nC par div dee use (rnZ par (nC - 1) (r0Z use 8 mrun)) nT due lat wk nE tk ld rule now st asl idn idl sp pe tin slp late srv hv av bd sh l9 (uZ a9 k9 x9) (1 - (b2i (now ≤ x1 ∧ x1 ≤ now + 400)))) := by rw [w_26]; exact hD
                    exact ih52 (s9 + 1) x9 (by omega) (by omega) (by rw [lm_s (by omega), ← hI]; first | exact (lm_a (by omega)).symm | exact (lm_b (by omega) (by omega)).symm | exact (lm_c (by omega) (by omega)).symm) (by omega) H locs hP hD hS ls (lv_sub hl [0, 2, 3, 4, 5, 6] rfl)
                  · skip
                    refine lv_lload hx hb dX8_leastCost_109 (lv_at hl 0 rfl) ?_
                    refine lv_goto (tgt := 121) hx hb dX8_leastCost_111 (by decide) ?_
                    refine za_lst hx hb hK hP hD hS 19 1 rfl rfl (by omega) (by omega) dX8_leastCost_121 (fun H locs hP hD hS => ?_)
                    have hP : va_P (dC, dI) vwCl (wM cI cJ cZ q pw co la vo nC par div dee use (rnZ par (nC - 1) (r0Z use 8 mrun)) nT due lat wk nE tk ld rule now st asl idn idl sp pe tin slp late srv hv av bd sh l9 (uZ (uZ a9 k9 x9) k9 x9) (1 - (b2i (now ≤ x1 ∧ x1 ≤ now + 400)))) H := hP
                    have hD : va_D A (wM cI cJ cZ q pw co la vo nC par div dee use (rnZ par (nC - 1) (r0Z use 8 mrun)) nT due lat wk nE tk ld rule now st asl idn idl sp pe tin slp late srv hv av bd sh l9 (uZ (uZ a9 k9 x9) k9 x9) (1 - (b2i (now ≤ x1 ∧ x1 ≤ now + 400)))) := hD
                    refine lv_iinc (v := iI (s9 + 1)) (lv' := [(5, .int (iI (s9 + 1))), (6, .long (lI x9)), (4, .int (iI k9)), (3, .int (iI (x1 - now))), (2, .int (iI d9)), (0, .ref (q 0)), (1, .int (iI x1))]) hx hb dX8_leastCost_122 hl (k := 1) rfl (iI_add _ _) (by decide) rfl (fun ls hl => ?_)
                    refine lv_goto (tgt := 52) hx hb dX8_leastCost_125 (by decide) ?_
                    have w_27 : (uZ a9 k9 x9) = (uZ (uZ a9 k9 x9) k9 x9) := by exact (uZ_u2 _ _ _ _).symm
                    have hP : va_P (dC, dI) vwCl (wM cI cJ cZ q pw co la vo nC par div dee use (rnZ par (nC - 1) (r0Z use 8 mrun)) nT due lat wk nE tk ld rule now st asl idn idl sp pe tin slp late srv hv av bd sh l9 (uZ a9 k9 x9) (1 - (b2i (now ≤ x1 ∧ x1 ≤ now + 400)))) H := by rw [w_27]; exact hP
                    have hD : va_D A (wM cI cJ cZ q pw co la vo nC par div dee use (rnZ par (nC - 1) (r0Z use 8 mrun)) nT due lat wk nE tk ld rule now st asl idn idl sp pe tin slp late srv hv av bd sh l9 (uZ a9 k9 x9) (1 - (b2i (now ≤ x1 ∧ x1 ≤ now + 400)))) := by rw [w_27]; exact hD
                    exact ih52 (s9 + 1) x9 (by omega) (by omega) (by rw [lm_s (by omega), ← hI]; first | exact (lm_a (by omega)).symm | exact (lm_b (by omega) (by omega)).symm | exact (lm_c (by omega) (by omega)).symm) (by omega) H locs hP hD hS ls (lv_sub hl [0, 2, 3, 4, 5, 6] rfl)
                · skip
                  refine lv_aload_n hx hb dX8_leastCost_70 rfl (lv_at hl 4 rfl) ?_
                  refine lv_iload hx hb dX8_leastCost_71 (lv_at hl 0 rfl) ?_
                  refine lv_iload hx hb dX8_leastCost_73 (lv_at hl 1 rfl) ?_
                  refine zc_pl (va_runV (As := [.int (iI s9), .int (iI k9)]) (rest := []) ⟨hx, hb, hml, hown, hts⟩ (kX8_idleCost l dC dI cI cJ cZ q pw co la vo nC par div dee use (rnZ par (nC - 1) (r0Z use 8 mrun)) nT due lat wk nE tk ld rule now st asl idn idl sp pe tin slp late srv hv av bd sh l9 (uZ a9 k9 x9) (1 - (b2i (now ≤ x1 ∧ x1 ≤ now + 400))) s9 k9 (by first | assumption | omega | exact b2i_01 _) (by first | assumption | omega | exact b2i_01 _) (by first | assumption | omega | exact b2i_01 _) (by first | assumption | omega | exact b2i_01 _) (by first | assumption | omega | exact b2i_01 _)) (cwV 2 hts gX8_leastCost_X8_idleCost rfl rfl rfl (by decide +kernel) ⟨Nat.le_of_ble_eq_true rfl, Nat.le_of_ble_eq_true rfl⟩) (zqV hK hP [0, 1, 2, 3, 4, 5, 6, 7, 8, 9, 10, 11, 12, 13, 14, 15, 16, 17, 18, 19] rfl 0 rfl rfl) rfl rfl hl.1 rfl (lv_room (Nat.le_of_ble_eq_true rfl)) dX8_leastCost_75 ⟨Nat.le_of_ble_eq_true rfl, Nat.le_of_ble_eq_true rfl⟩) ?_
                  have hm8 := mc_r (pw := pw) (co := co) (la := la) (s := s9) (n := k9) hpw hco hla (by omega) (by omega)
                  refine lv_goto (tgt := 88) hx hb dX8_leastCost_78 (by decide) ?_
                  refine lv_lstore (lv' := [(6, .long (lI (mcZ pw co la s9 k9))), (5, .int (iI s9)), (4, .int (iI k9)), (3, .int (iI (x1 - now))), (2, .int (iI d9)), (0, .ref (q 0)), (1, .int (iI x1))]) hx hb dX8_leastCost_88 hl (by decide) rfl (fun ls hl => ?_)
                  refine lv_aload_n hx hb dX8_leastCost_90 rfl (lv_at hl 5 rfl) ?_
                  refine va_get (D := (dC, dI)) (ci := 8) (v := .ref (q 19)) (C := RX8) (T := TX8) (N := 36) hx hb hts hinX8 hown hK.1 hP 0 rfl rfl 34 (by decide) (hts _ (List.mem_of_getElem? (i := 2) rfl)) (fun _ h9 => h9) rfl dX8_leastCost_91 ?_
                  refine lv_iload hx hb dX8_leastCost_94 (lv_at hl 2 rfl) ?_
                  refine lv_lload hx hb dX8_leastCost_96 (lv_at hl 0 rfl) ?_
                  refine lv_aload_n hx hb dX8_leastCost_98 rfl (lv_at hl 5 rfl) ?_
                  refine va_get (D := (dC, dI)) (ci := 8) (v := .ref (q 19)) (C := RX8) (T := TX8) (N := 36) hx hb hts hinX8 hown hK.1 hP 0 rfl rfl 34 (by decide) (hts _ (List.mem_of_getElem? (i := 2) rfl)) (fun _ h9 => h9) rfl dX8_leastCost_99 ?_
                  refine lv_iload hx hb dX8_leastCost_102 (lv_at hl 2 rfl) ?_
                  refine za_lld hx hb hK hP 19 1 rfl rfl (by omega) (by omega) dX8_leastCost_104 ?_
                  refine ze_l (y := x9) (by exact uZ_s _ _ _) ?_
                  refine zl_cge (tgt := 114) hx hb (by omega) (by omega) dX8_leastCost_105 dX8_leastCost_106 (by decide) (fun c_28 => ?_) (fun c_28 => ?_)
                  · skip
                    refine lv_aload_n hx hb dX8_leastCost_114 rfl (lv_at hl 5 rfl) ?_
                    refine va_get (D := (dC, dI)) (ci := 8) (v := .ref (q 19)) (C := RX8) (T := TX8) (N := 36) hx hb hts hinX8 hown hK.1 hP 0 rfl rfl 34 (by decide) (hts _ (List.mem_of_getElem? (i := 2) rfl)) (fun _ h9 => h9) rfl dX8_leastCost_115 ?_
                    refine lv_iload hx hb dX8_leastCost_118 (lv_at hl 2 rfl) ?_
                    refine za_lld hx hb hK hP 19 1 rfl rfl (by omega) (by omega) dX8_leastCost_120 ?_
                    refine ze_l (y := x9) (by exact uZ_s _ _ _) ?_
                    refine za_lst hx hb hK hP hD hS 19 1 rfl rfl (by omega) (by omega) dX8_leastCost_121 (fun H locs hP hD hS => ?_)
                    have hP : va_P (dC, dI) vwCl (wM cI cJ cZ q pw co la vo nC par div dee use (rnZ par (nC - 1) (r0Z use 8 mrun)) nT due lat wk nE tk ld rule now st asl idn idl sp pe tin slp late srv hv av bd sh l9 (uZ (uZ a9 k9 x9) k9 x9) (1 - (b2i (now ≤ x1 ∧ x1 ≤ now + 400)))) H := hP
                    have hD : va_D A (wM cI cJ cZ q pw co la vo nC par div dee use (rnZ par (nC - 1) (r0Z use 8 mrun)) nT due lat wk nE tk ld rule now st asl idn idl sp pe tin slp late srv hv av bd sh l9 (uZ (uZ a9 k9 x9) k9 x9) (1 - (b2i (now ≤ x1 ∧ x1 ≤ now + 400)))) := hD
                    refine lv_iinc (v := iI (s9 + 1)) (lv' := [(5, .int (iI (s9 + 1))), (6, .long (lI (mcZ pw co la s9 k9))), (4, .int (iI k9)), (3, .int (iI (x1 - now))), (2, .int (iI d9)), (0, .ref (q 0)), (1, .int (iI x1))]) hx hb dX8_leastCost_122 hl (k := 1) rfl (iI_add _ _) (by decide) rfl (fun ls hl => ?_)
                    refine lv_goto (tgt := 52) hx hb dX8_leastCost_125 (by decide) ?_
                    have w_29 : (uZ a9 k9 x9) = (uZ (uZ a9 k9 x9) k9 x9) := by exact (uZ_u2 _ _ _ _).symm
                    have hP : va_P (dC, dI) vwCl (wM cI cJ cZ q pw co la vo nC par div dee use (rnZ par (nC - 1) (r0Z use 8 mrun)) nT due lat wk nE tk ld rule now st asl idn idl sp pe tin slp late srv hv av bd sh l9 (uZ a9 k9 x9) (1 - (b2i (now ≤ x1 ∧ x1 ≤ now + 400)))) H := by rw [w_29]; exact hP
                    have hD : va_D A (wM cI cJ cZ q pw co la vo nC par div dee use (rnZ par (nC - 1) (r0Z use 8 mrun)) nT due lat wk nE tk ld rule now st asl idn idl sp pe tin slp late srv hv av bd sh l9 (uZ a9 k9 x9) (1 - (b2i (now ≤ x1 ∧ x1 ≤ now + 400)))) := by rw [w_29]; exact hD
                    exact ih52 (s9 + 1) x9 (by omega) (by omega) (by rw [lm_s (by omega), ← hI]; first | exact (lm_a (by omega)).symm | exact (lm_b (by omega) (by omega)).symm | exact (lm_c (by omega) (by omega)).symm) (by omega) H locs hP hD hS ls (lv_sub hl [0, 2, 3, 4, 5, 6] rfl)
                  · skip
                    refine lv_lload hx hb dX8_leastCost_109 (lv_at hl 0 rfl) ?_
                    refine lv_goto (tgt := 121) hx hb dX8_leastCost_111 (by decide) ?_
                    refine za_lst hx hb hK hP hD hS 19 1 rfl rfl (by omega) (by omega) dX8_leastCost_121 (fun H locs hP hD hS => ?_)
                    have hP : va_P (dC, dI) vwCl (wM cI cJ cZ q pw co la vo nC par div dee use (rnZ par (nC - 1) (r0Z use 8 mrun)) nT due lat wk nE tk ld rule now st asl idn idl sp pe tin slp late srv hv av bd sh l9 (uZ (uZ a9 k9 x9) k9 (mcZ pw co la s9 k9)) (1 - (b2i (now ≤ x1 ∧ x1 ≤ now + 400)))) H := hP
                    have hD : va_D A (wM cI cJ cZ q pw co la vo nC par div dee use (rnZ par (nC - 1) (r0Z use 8 mrun)) nT due lat wk nE tk ld rule now st asl idn idl sp pe tin slp late srv hv av bd sh l9 (uZ (uZ a9 k9 x9) k9 (mcZ pw co la s9 k9)) (1 - (b2i (now ≤ x1 ∧ x1 ≤ now + 400)))) := hD
                    refine lv_iinc (v := iI (s9 + 1)) (lv' := [(5, .int (iI (s9 + 1))), (6, .long (lI (mcZ pw co la s9 k9))), (4, .int (iI k9)), (3, .int (iI (x1 - now))), (2, .int (iI d9)), (0, .ref (q 0)), (1, .int (iI x1))]) hx hb dX8_leastCost_122 hl (k := 1) rfl (iI_add _ _) (by decide) rfl (fun ls hl => ?_)
                    refine lv_goto (tgt := 52) hx hb dX8_leastCost_125 (by decide) ?_
                    have w_30 : (uZ a9 k9 (mcZ pw co la s9 k9)) = (uZ (uZ a9 k9 x9) k9 (mcZ pw co la s9 k9)) := by exact (uZ_u2 _ _ _ _).symm
                    have hP : va_P (dC, dI) vwCl (wM cI cJ cZ q pw co la vo nC par div dee use (rnZ par (nC - 1) (r0Z use 8 mrun)) nT due lat wk nE tk ld rule now st asl idn idl sp pe tin slp late srv hv av bd sh l9 (uZ a9 k9 (mcZ pw co la s9 k9)) (1 - (b2i (now ≤ x1 ∧ x1 ≤ now + 400)))) H := by rw [w_30]; exact hP
                    have hD : va_D A (wM cI cJ cZ q pw co la vo nC par div dee use (rnZ par (nC - 1) (r0Z use 8 mrun)) nT due lat wk nE tk ld rule now st asl idn idl sp pe tin slp late srv hv av bd sh l9 (uZ a9 k9 (mcZ pw co la s9 k9)) (1 - (b2i (now ≤ x1 ∧ x1 ≤ now + 400)))) := by rw [w_30]; exact hD
                    exact ih52 (s9 + 1) (mcZ pw co la s9 k9) (by omega) (by omega) (by rw [lm_s (by omega), ← hI]; first | exact (lm_a (by omega)).symm | exact (lm_b (by omega) (by omega)).symm | exact (lm_c (by omega) (by omega)).symm) (by omega) H locs hP hD hS ls (lv_sub hl [0, 2, 3, 4, 5, 6] rfl)
          exact L52 (_ + 1) 1 (mcZ pw co la 0 k9) (by omega) (hm9) (rfl) (Nat.lt_succ_self _) H locs hP hD hS ls (lv_sub hl [0, 1, 2, 3, 4, 5] rfl)
    exact L29 (_ + 1) 0 mB mL (by omega) (by omega) (rfl) (rfl) (Nat.lt_succ_self _) H locs hP hD hS ls (lv_sub hl [0, 1, 2, 3, 4] rfl)
  · skip
    refine lv_lconst (v := lI 0) hx hb dX8_leastCost_12 rfl ?_
    subst hQ
    exact zret_l (W1 := fun u9 : Int × Int × (Int → Int) × (Int → Int) × (Int → Int) => wM cI cJ cZ q pw co la vo nC par div dee use (u9.2.2.1) nT due lat wk nE tk ld rule now st asl idn idl sp pe tin slp late srv hv av bd sh (u9.2.2.2.1) (u9.2.2.2.2) (u9.2.1)) (0, 1 - (b2i (now ≤ x1 ∧ x1 ≤ now + 400)), mrun, mL, mB) hx hb hr hP hD hS hlocks dX8_leastCost_13 (by first | (subst hd9; exact ⟨rfl, hrun9, Or.inl ⟨by omega, by (first | rfl | (rw [b2i_t (by omega)]; done) | (rw [b2i_f (by omega)]; done) | (rw [b2i_t (by omega)]; rfl) | (rw [b2i_f (by omega)]; rfl)), by rw [hm9e, hmb9, show f9 = x1 - now by omega], hmb9, by rw [hm9e, hmb9, show f9 = x1 - now by omega]⟩⟩) | exact ⟨rfl, hmrun, Or.inr ⟨by omega, by (first | rfl | (rw [b2i_t (by omega)]; done) | (rw [b2i_f (by omega)]; done) | (rw [b2i_t (by omega)]; rfl) | (rw [b2i_f (by omega)]; rfl)), rfl, rfl, rfl⟩⟩)
