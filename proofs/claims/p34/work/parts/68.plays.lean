theorem it_1 {pw co la hv : Int → Int} {rule dp : Int} {st : Int} {asl : Int} {now : Int} {nT : Int} {tdue : Int → Int} {tlat : Int → Int} {twk : Int → Int} {nE : Int} {edue : Int → Int} {ewk : Int → Int} {sp : Int} {pe : Int} {tin : Int → Int} {slp : Int} {late : Int} {srv : Int} {av : Int} {bd : Int} {sh : Int} {idl : Int → Int} {idn : Int} : itT pw co la hv rule dp (Int.toNat 1) (st, asl, now, nT, tdue, tlat, twk, nE, edue, ewk, sp, pe, tin, slp, late, srv, av, bd, sh, idl, idn) = tkB pw co la hv rule dp st asl now nT tdue tlat twk nE edue ewk sp pe tin slp late srv av bd sh idl idn := rfl
theorem tin_s {f : Int → Int} {s : Int} (h : 0 ≤ s ∧ s ≤ 3) : uZ f s (f s + 1) 0 + uZ f s (f s + 1) 1 + uZ f s (f s + 1) 2 + uZ f s (f s + 1) 3 = f 1 + f 2 + f 3 + f 0 + 1 := by
  rcases (show s = 0 ∨ s = 1 ∨ s = 2 ∨ s = 3 by omega) with rfl | rfl | rfl | rfl <;> simp only [uZ] <;> simp <;> omega
def rmL_plays : Room := { frames := 7, cells := 0, slots := 0, locals := 152 }
set_option maxRecDepth 100000 in
set_option maxHeartbeats 4000000 in
theorem kL_plays (l : Launch) (dC : Nat → ClassId) (dI : Nat → Nat → Nat) (cI cJ cZ : ClassId) (q : Nat → Nat)  (pw : Int → Int) (co : Int → Int) (la : Int → Int) (vo : Int → Int) (cpar : Int → Int) (fr : Int → Int) (cdee : Int → Int) (use : Int → Int) (run : Int → Int) (nC : Int) (tdue : Int → Int) (tlat : Int → Int) (twk : Int → Int) (nT : Int) (edue : Int → Int) (elat : Int → Int) (ewk : Int → Int) (nE : Int) (len : Int → Int) (cnt : Int) (tin : Int → Int) (sp : Int) (pe : Int) (slp : Int) (late : Int) (srv : Int) (hv : Int → Int) (av : Int) (bd : Int) (sh : Int) (sc : Int → Int) (lt : Int → Int) (rule : Int) (now : Int) (st : Int) (asl : Int) (idl : Int → Int) (idn : Int) (par : Int → Int) (div : Int → Int) (dee : Int → Int) (w : Int → Int) (n : Int) (K : Int) (hK : 0 ≤ K ∧ K ≤ 100000) (hn : 0 ≤ n ∧ n ≤ 20) (hI : LJ K pw co la vo cdee use run nC tdue tlat twk nT edue elat ewk nE len cnt tin sp pe slp late srv hv av bd sh rule now st asl idl idn dee w) : zMi l yL_plays wsL_plays rmL_plays (dC, dI) (zT cI cJ cZ) (wPW cI cJ cZ q pw co la vo cpar fr cdee use run nC tdue tlat twk nT edue elat ewk nE len cnt tin sp pe slp late srv hv av bd sh sc lt rule now st asl idl idn par div dee w) [.ref (q 0), .ref (q 29), .int (iI n)] (fun (r9 : Int) (u9 : Int × Int × Int × Int × (Int → Int) × (Int → Int) × (Int → Int) × Int × (Int → Int) × (Int → Int) × Int × Int × (Int → Int) × Int × Int × Int × Int × Int × Int × (Int → Int) × Int × (Int → Int) × Int × (Int → Int) × (Int → Int)) => r9 = 1 ∧ (LJ (K + n) pw co la vo cdee use (u9.2.2.2.2.2.2.2.2.2.2.2.2.2.2.2.2.2.2.2.2.2.2.2.2) nC (u9.2.2.2.2.1) (u9.2.2.2.2.2.1) (u9.2.2.2.2.2.2.1) (u9.2.2.2.1) (u9.2.2.2.2.2.2.2.2.1) (u9.2.2.2.2.2.2.2.2.2.2.2.2.2.2.2.2.2.2.2.2.2.2.2.1) (u9.2.2.2.2.2.2.2.2.2.1) (u9.2.2.2.2.2.2.2.1) (u9.2.2.2.2.2.2.2.2.2.2.2.2.2.2.2.2.2.2.2.2.2.1) (u9.2.2.2.2.2.2.2.2.2.2.2.2.2.2.2.2.2.2.2.2.2.2.1) (u9.2.2.2.2.2.2.2.2.2.2.2.2.1) (u9.2.2.2.2.2.2.2.2.2.2.1) (u9.2.2.2.2.2.2.2.2.2.2.2.1) (u9.2.2.2.2.2.2.2.2.2.2.2.2.2.1) (u9.2.2.2.2.2.2.2.2.2.2.2.2.2.2.1) (u9.2.2.2.2.2.2.2.2.2.2.2.2.2.2.2.1) hv (u9.2.2.2.2.2.2.2.2.2.2.2.2.2.2.2.2.1) (u9.2.2.2.2.2.2.2.2.2.2.2.2.2.2.2.2.2.1) (u9.2.2.2.2.2.2.2.2.2.2.2.2.2.2.2.2.2.2.1) rule (u9.2.2.1) (u9.1) (u9.2.1) (u9.2.2.2.2.2.2.2.2.2.2.2.2.2.2.2.2.2.2.2.1) (u9.2.2.2.2.2.2.2.2.2.2.2.2.2.2.2.2.2.2.2.2.1) dee w)) (fun u9 : Int × Int × Int × Int × (Int → Int) × (Int → Int) × (Int → Int) × Int × (Int → Int) × (Int → Int) × Int × Int × (Int → Int) × Int × Int × Int × Int × Int × Int × (Int → Int) × Int × (Int → Int) × Int × (Int → Int) × (Int → Int) => wPW cI cJ cZ q pw co la vo cpar fr cdee use (u9.2.2.2.2.2.2.2.2.2.2.2.2.2.2.2.2.2.2.2.2.2.2.2.2) nC (u9.2.2.2.2.1) (u9.2.2.2.2.2.1) (u9.2.2.2.2.2.2.1) (u9.2.2.2.1) (u9.2.2.2.2.2.2.2.2.1) (u9.2.2.2.2.2.2.2.2.2.2.2.2.2.2.2.2.2.2.2.2.2.2.2.1) (u9.2.2.2.2.2.2.2.2.2.1) (u9.2.2.2.2.2.2.2.1) (u9.2.2.2.2.2.2.2.2.2.2.2.2.2.2.2.2.2.2.2.2.2.1) (u9.2.2.2.2.2.2.2.2.2.2.2.2.2.2.2.2.2.2.2.2.2.2.1) (u9.2.2.2.2.2.2.2.2.2.2.2.2.1) (u9.2.2.2.2.2.2.2.2.2.2.1) (u9.2.2.2.2.2.2.2.2.2.2.2.1) (u9.2.2.2.2.2.2.2.2.2.2.2.2.2.1) (u9.2.2.2.2.2.2.2.2.2.2.2.2.2.2.1) (u9.2.2.2.2.2.2.2.2.2.2.2.2.2.2.2.1) hv (u9.2.2.2.2.2.2.2.2.2.2.2.2.2.2.2.2.1) (u9.2.2.2.2.2.2.2.2.2.2.2.2.2.2.2.2.2.1) (u9.2.2.2.2.2.2.2.2.2.2.2.2.2.2.2.2.2.2.1) sc lt rule (u9.2.2.1) (u9.1) (u9.2.1) (u9.2.2.2.2.2.2.2.2.2.2.2.2.2.2.2.2.2.2.2.1) (u9.2.2.2.2.2.2.2.2.2.2.2.2.2.2.2.2.2.2.2.2.1) par div dee w) 0 0 := by
  refine zent_i (cc := cL_plays) (maxL := 23) (ret := (some .boolean)) (by decide +kernel) rfl (Nat.le_of_ble_eq_true rfl) ?_
  intro p e s m below meth c A ls hE hP hK hA hD hS hl
  obtain ⟨hx, hb, hr, hml, hown, hts, hlocks, hmn⟩ := hE
  have hinX7 : ∀ w ∈ u_ws RX7 TX7 13, w ∈ wsL_plays := by decide +kernel
  have hinX3 : ∀ w ∈ u_ws RX3 TX3 4, w ∈ wsL_plays := by decide +kernel
  have hinX4 : ∀ w ∈ u_ws RX4 TX4 6, w ∈ wsL_plays := by decide +kernel
  have hinX0 : ∀ w ∈ u_ws RX0 TX0 4, w ∈ wsL_plays := by decide +kernel
  have hinX6 : ∀ w ∈ u_ws RX6 TX6 3, w ∈ wsL_plays := by decide +kernel
  have hinX2 : ∀ w ∈ u_ws RX2 TX2 2, w ∈ wsL_plays := by decide +kernel
  have hinX1 : ∀ w ∈ u_ws RX1 TX1 6, w ∈ wsL_plays := by decide +kernel
  have hl : lv_has ls 23 [(0, .ref (q 0)), (1, .ref (q 29)), (2, .int (iI n))] := hl
  refine z_gen (fun Q hQ => ?_)
  refine lv_iconst (v := iI 1) hx hb dL_plays_0 rfl ?_
  refine lv_istore_n (lv' := [(3, .int (iI 1)), (0, .ref (q 0)), (1, .ref (q 29)), (2, .int (iI n))]) hx hb dL_plays_1 rfl hl (by decide) rfl (fun ls hl => ?_)
  refine lv_iconst (v := iI 0) hx hb dL_plays_2 rfl ?_
  refine lv_istore (lv' := [(4, .int (iI 0)), (3, .int (iI 1)), (0, .ref (q 0)), (1, .ref (q 29)), (2, .int (iI n))]) hx hb dL_plays_3 hl (by decide) rfl (fun ls hl => ?_)
  have L5 : ∀ (fuel : Nat) (k : Int) (st3 : Int) (asl3 : Int) (now3 : Int) (nT3 : Int) (tdue3 : Int → Int) (tlat3 : Int → Int) (twk3 : Int → Int) (nE3 : Int) (edue3 : Int → Int) (ewk3 : Int → Int) (sp3 : Int) (pe3 : Int) (tin3 : Int → Int) (slp3 : Int) (late3 : Int) (srv3 : Int) (av3 : Int) (bd3 : Int) (sh3 : Int) (idl3 : Int → Int) (idn3 : Int) (len3 : Int → Int) (cnt3 : Int) (elat3 : Int → Int) (run3 : Int → Int), (0 ≤ k ∧ k ≤ n) → (LJ (K + k) pw co la vo cdee use run3 nC tdue3 tlat3 twk3 nT3 edue3 elat3 ewk3 nE3 len3 cnt3 tin3 sp3 pe3 slp3 late3 srv3 hv av3 bd3 sh3 rule now3 st3 asl3 idl3 idn3 dee w) → ((n - k).toNat) < fuel → ∀ (H : Heap) (locs : List Loc), va_P (dC, dI) vwCl (wPW cI cJ cZ q pw co la vo cpar fr cdee use run3 nC tdue3 tlat3 twk3 nT3 edue3 elat3 ewk3 nE3 len3 cnt3 tin3 sp3 pe3 slp3 late3 srv3 hv av3 bd3 sh3 sc lt rule now3 st3 asl3 idl3 idn3 par div dee w) H → va_D A (wPW cI cJ cZ q pw co la vo cpar fr cdee use run3 nC tdue3 tlat3 twk3 nT3 edue3 elat3 ewk3 nE3 len3 cnt3 tin3 sp3 pe3 slp3 late3 srv3 hv av3 bd3 sh3 sc lt rule now3 st3 asl3 idl3 idn3 par div dee w) → va_S A s.heap H locs → ∀ ls : Array Slot, lv_has ls 23 [(4, .int (iI k)), (3, .int (iI 1)), (0, .ref (q 0)), (1, .ref (q 29)), (2, .int (iI n))] → W p l e rmL_plays s m ([.ref (q 0), .ref (q 29), .int (iI n)] : List Value).toArray below meth c H locs 0 0 Q (F0 m 5 ls []) := by
    intro fuel
    induction fuel with
    | zero =>
      intro k st3 asl3 now3 nT3 tdue3 tlat3 twk3 nE3 edue3 ewk3 sp3 pe3 tin3 slp3 late3 srv3 av3 bd3 sh3 idl3 idn3 len3 cnt3 elat3 run3 hk hI3 hmeas H locs hP hD hS ls hl
      exact absurd hmeas (by omega)
    | succ fuel ih =>
      intro k st3 asl3 now3 nT3 tdue3 tlat3 twk3 nE3 edue3 ewk3 sp3 pe3 tin3 slp3 late3 srv3 av3 bd3 sh3 idl3 idn3 len3 cnt3 elat3 run3 hk hI3 hmeas H locs hP hD hS ls hl
      obtain ⟨⟨hpw, hco, hla, hc0, hl0⟩, ⟨hnC1, hu0, huse, hrun, hcd, hvo, hd0, hde⟩, ⟨hrl, hhv, hid, hel⟩, hti, hsb, hw0, hw4, hw8⟩ := id hI3
      obtain ⟨i1, i2, i3, i4, i5, i6, i7, i8, i9, i10, i11, i12, i13, i14, i15, i16, i17⟩ := id hti
      have hnC : 1 ≤ nC ∧ nC ≤ 8 := by omega
      have hcp : ∀ c : Int, 1 ≤ c → c < nC → 0 ≤ cpar c ∧ cpar c < c := fun c h1 h2 => absurd h2 (by omega)
      have hpp : ∀ c : Int, 1 ≤ c → c < nC → par c = cpar c := fun c h1 h2 => absurd h2 (by omega)
      have hdd : ∀ c : Int, 1 ≤ c → c < nC → dee c = cdee c := fun c h1 h2 => absurd h2 (by omega)
      have hdz := dzM_r (par := par) (use := use) hvo hde hnC
      have htk : ∃ K : Int, K ≤ 190000 ∧ tiB K st3 asl3 now3 nT3 tdue3 tlat3 twk3 nE3 edue3 ewk3 sp3 pe3 tin3 slp3 late3 srv3 av3 bd3 sh3 idl3 idn3 := ⟨K + k, by omega, hti⟩
      have hn8 := nx_ll i5 i6 i4
      refine lv_iload hx hb dL_plays_5 (lv_at hl 0 rfl) ?_
      refine lv_iload_n hx hb dL_plays_7 rfl (lv_at hl 4 rfl) ?_
      refine zi_cge (tgt := 493) hx hb (by omega) (by omega) dL_plays_8 (by decide) (fun c_1 => ?_) (fun c_1 => ?_)
      · skip
        refine lv_iload_n hx hb dL_plays_493 rfl (lv_at hl 1 rfl) ?_
        subst hQ
        exact zret_z (W1 := fun u9 : Int × Int × Int × Int × (Int → Int) × (Int → Int) × (Int → Int) × Int × (Int → Int) × (Int → Int) × Int × Int × (Int → Int) × Int × Int × Int × Int × Int × Int × (Int → Int) × Int × (Int → Int) × Int × (Int → Int) × (Int → Int) => wPW cI cJ cZ q pw co la vo cpar fr cdee use (u9.2.2.2.2.2.2.2.2.2.2.2.2.2.2.2.2.2.2.2.2.2.2.2.2) nC (u9.2.2.2.2.1) (u9.2.2.2.2.2.1) (u9.2.2.2.2.2.2.1) (u9.2.2.2.1) (u9.2.2.2.2.2.2.2.2.1) (u9.2.2.2.2.2.2.2.2.2.2.2.2.2.2.2.2.2.2.2.2.2.2.2.1) (u9.2.2.2.2.2.2.2.2.2.1) (u9.2.2.2.2.2.2.2.1) (u9.2.2.2.2.2.2.2.2.2.2.2.2.2.2.2.2.2.2.2.2.2.1) (u9.2.2.2.2.2.2.2.2.2.2.2.2.2.2.2.2.2.2.2.2.2.2.1) (u9.2.2.2.2.2.2.2.2.2.2.2.2.1) (u9.2.2.2.2.2.2.2.2.2.2.1) (u9.2.2.2.2.2.2.2.2.2.2.2.1) (u9.2.2.2.2.2.2.2.2.2.2.2.2.2.1) (u9.2.2.2.2.2.2.2.2.2.2.2.2.2.2.1) (u9.2.2.2.2.2.2.2.2.2.2.2.2.2.2.2.1) hv (u9.2.2.2.2.2.2.2.2.2.2.2.2.2.2.2.2.1) (u9.2.2.2.2.2.2.2.2.2.2.2.2.2.2.2.2.2.1) (u9.2.2.2.2.2.2.2.2.2.2.2.2.2.2.2.2.2.2.1) sc lt rule (u9.2.2.1) (u9.1) (u9.2.1) (u9.2.2.2.2.2.2.2.2.2.2.2.2.2.2.2.2.2.2.2.1) (u9.2.2.2.2.2.2.2.2.2.2.2.2.2.2.2.2.2.2.2.2.1) par div dee w) (st3, asl3, now3, nT3, tdue3, tlat3, twk3, nE3, edue3, ewk3, sp3, pe3, tin3, slp3, late3, srv3, av3, bd3, sh3, idl3, idn3, len3, cnt3, elat3, run3) hx hb hr hP hD hS hlocks dL_plays_494 (by first | decide | omega) (by (obtain rfl : k = n := by omega); exact ⟨rfl, hI3⟩)
      · skip
        refine lv_iload_n hx hb dL_plays_11 rfl (lv_at hl 1 rfl) ?_
        refine zi_feq (tgt := 493) hx hb (by decide) dL_plays_12 (by decide) (fun c_2 => ?_) (fun c_2 => ?_)
        · skip
          exact absurd c_2 (by decide)
        · skip
          refine lv_aload_n hx hb dL_plays_15 rfl (lv_at hl 2 rfl) ?_
          refine zc_pi (va_runV (As := []) (rest := []) ⟨hx, hb, hml, hown, hts⟩ (kX7_now l dC dI cI cJ cZ q pw co la vo cpar fr cdee use run3 nC tdue3 tlat3 twk3 nT3 edue3 elat3 ewk3 nE3 len3 cnt3 tin3 sp3 pe3 slp3 late3 srv3 hv av3 bd3 sh3 sc lt rule now3 st3 asl3 idl3 idn3 par div dee) (cwV 0 hts gL_plays_X7_now rfl rfl rfl (by decide +kernel) ⟨Nat.le_of_ble_eq_true rfl, Nat.le_of_ble_eq_true rfl⟩) (zqV hK hP [0, 1, 2, 3, 4, 5, 6, 7, 8, 9, 10, 11, 12, 13, 14, 15, 16, 17, 18, 19, 20, 21, 22, 23, 24, 25, 26, 27, 28] rfl 0 rfl rfl) rfl rfl hl.1 rfl (lv_room (Nat.le_of_ble_eq_true rfl)) dL_plays_16 ⟨Nat.le_of_ble_eq_true rfl, Nat.le_of_ble_eq_true rfl⟩) ?_
          refine lv_istore (lv' := [(5, .int (iI now3)), (4, .int (iI k)), (3, .int (iI 1)), (0, .ref (q 0)), (1, .ref (q 29)), (2, .int (iI n))]) hx hb dL_plays_19 hl (by decide) rfl (fun ls hl => ?_)
          refine lv_aload_n hx hb dL_plays_21 rfl (lv_at hl 3 rfl) ?_
          refine zc_pi (va_runV (As := []) (rest := []) ⟨hx, hb, hml, hown, hts⟩ (kX7_state l dC dI cI cJ cZ q pw co la vo cpar fr cdee use run3 nC tdue3 tlat3 twk3 nT3 edue3 elat3 ewk3 nE3 len3 cnt3 tin3 sp3 pe3 slp3 late3 srv3 hv av3 bd3 sh3 sc lt rule now3 st3 asl3 idl3 idn3 par div dee) (cwV 0 hts gL_plays_X7_state rfl rfl rfl (by decide +kernel) ⟨Nat.le_of_ble_eq_true rfl, Nat.le_of_ble_eq_true rfl⟩) (zqV hK hP [0, 1, 2, 3, 4, 5, 6, 7, 8, 9, 10, 11, 12, 13, 14, 15, 16, 17, 18, 19, 20, 21, 22, 23, 24, 25, 26, 27, 28] rfl 0 rfl rfl) rfl rfl hl.1 rfl (lv_room (Nat.le_of_ble_eq_true rfl)) dL_plays_22 ⟨Nat.le_of_ble_eq_true rfl, Nat.le_of_ble_eq_true rfl⟩) ?_
          refine lv_istore (lv' := [(6, .int (iI st3)), (5, .int (iI now3)), (4, .int (iI k)), (3, .int (iI 1)), (0, .ref (q 0)), (1, .ref (q 29)), (2, .int (iI n))]) hx hb dL_plays_25 hl (by decide) rfl (fun ls hl => ?_)
          refine lv_aload_n hx hb dL_plays_27 rfl (lv_at hl 4 rfl) ?_
          refine zc_pi (va_runV (As := []) (rest := []) ⟨hx, hb, hml, hown, hts⟩ (kX7_nextWakeup l dC dI cI cJ cZ q pw co la vo cpar fr cdee use run3 nC tdue3 tlat3 twk3 nT3 edue3 elat3 ewk3 nE3 len3 cnt3 tin3 sp3 pe3 slp3 late3 srv3 hv av3 bd3 sh3 sc lt rule now3 st3 asl3 idl3 idn3 par div dee (by first | assumption | omega | exact b2i_01 _) (by first | assumption | omega | exact b2i_01 _) (by first | assumption | omega | exact b2i_01 _) (by first | assumption | omega | exact b2i_01 _)) (cwV 0 hts gL_plays_X7_nextWakeup rfl rfl rfl (by decide +kernel) ⟨Nat.le_of_ble_eq_true rfl, Nat.le_of_ble_eq_true rfl⟩) (zqV hK hP [0, 1, 2, 3, 4, 5, 6, 7, 8, 9, 10, 11, 12, 13, 14, 15, 16, 17, 18, 19, 20, 21, 22, 23, 24, 25, 26, 27, 28] rfl 0 rfl rfl) rfl rfl hl.1 rfl (lv_room (Nat.le_of_ble_eq_true rfl)) dL_plays_28 ⟨Nat.le_of_ble_eq_true rfl, Nat.le_of_ble_eq_true rfl⟩) ?_
          refine lv_istore (lv' := [(7, .int (iI (llZ tdue3 tlat3 (-1) 1000000000 nT3))), (6, .int (iI st3)), (5, .int (iI now3)), (4, .int (iI k)), (3, .int (iI 1)), (0, .ref (q 0)), (1, .ref (q 29)), (2, .int (iI n))]) hx hb dL_plays_31 hl (by decide) rfl (fun ls hl => ?_)
          refine lv_aload_n hx hb dL_plays_33 rfl (lv_at hl 5 rfl) ?_
          refine zc_pi (va_runV (As := []) (rest := []) ⟨hx, hb, hml, hown, hts⟩ (kX7_served l dC dI cI cJ cZ q pw co la vo cpar fr cdee use run3 nC tdue3 tlat3 twk3 nT3 edue3 elat3 ewk3 nE3 len3 cnt3 tin3 sp3 pe3 slp3 late3 srv3 hv av3 bd3 sh3 sc lt rule now3 st3 asl3 idl3 idn3 par div dee) (cwV 0 hts gL_plays_X7_served rfl rfl rfl (by decide +kernel) ⟨Nat.le_of_ble_eq_true rfl, Nat.le_of_ble_eq_true rfl⟩) (zqV hK hP [0, 1, 2, 3, 4, 5, 6, 7, 8, 9, 10, 11, 12, 13, 14, 15, 16, 17, 18, 19, 20, 21, 22, 23, 24, 25, 26, 27, 28] rfl 0 rfl rfl) rfl rfl hl.1 rfl (lv_room (Nat.le_of_ble_eq_true rfl)) dL_plays_34 ⟨Nat.le_of_ble_eq_true rfl, Nat.le_of_ble_eq_true rfl⟩) ?_
          refine lv_istore (lv' := [(8, .int (iI srv3)), (7, .int (iI (llZ tdue3 tlat3 (-1) 1000000000 nT3))), (6, .int (iI st3)), (5, .int (iI now3)), (4, .int (iI k)), (3, .int (iI 1)), (0, .ref (q 0)), (1, .ref (q 29)), (2, .int (iI n))]) hx hb dL_plays_37 hl (by decide) rfl (fun ls hl => ?_)
          refine lv_aload_n hx hb dL_plays_39 rfl (lv_at hl 6 rfl) ?_
          refine zc_pi (va_runV (As := []) (rest := []) ⟨hx, hb, hml, hown, hts⟩ (kX7_sleeps l dC dI cI cJ cZ q pw co la vo cpar fr cdee use run3 nC tdue3 tlat3 twk3 nT3 edue3 elat3 ewk3 nE3 len3 cnt3 tin3 sp3 pe3 slp3 late3 srv3 hv av3 bd3 sh3 sc lt rule now3 st3 asl3 idl3 idn3 par div dee) (cwV 0 hts gL_plays_X7_sleeps rfl rfl rfl (by decide +kernel) ⟨Nat.le_of_ble_eq_true rfl, Nat.le_of_ble_eq_true rfl⟩) (zqV hK hP [0, 1, 2, 3, 4, 5, 6, 7, 8, 9, 10, 11, 12, 13, 14, 15, 16, 17, 18, 19, 20, 21, 22, 23, 24, 25, 26, 27, 28] rfl 0 rfl rfl) rfl rfl hl.1 rfl (lv_room (Nat.le_of_ble_eq_true rfl)) dL_plays_40 ⟨Nat.le_of_ble_eq_true rfl, Nat.le_of_ble_eq_true rfl⟩) ?_
          refine lv_istore (lv' := [(9, .int (iI slp3)), (8, .int (iI srv3)), (7, .int (iI (llZ tdue3 tlat3 (-1) 1000000000 nT3))), (6, .int (iI st3)), (5, .int (iI now3)), (4, .int (iI k)), (3, .int (iI 1)), (0, .ref (q 0)), (1, .ref (q 29)), (2, .int (iI n))]) hx hb dL_plays_43 hl (by decide) rfl (fun ls hl => ?_)
          refine lv_aload_n hx hb dL_plays_45 rfl (lv_at hl 7 rfl) ?_
          refine zc_pi (va_runV (As := []) (rest := []) ⟨hx, hb, hml, hown, hts⟩ (kX7_lateness l dC dI cI cJ cZ q pw co la vo cpar fr cdee use run3 nC tdue3 tlat3 twk3 nT3 edue3 elat3 ewk3 nE3 len3 cnt3 tin3 sp3 pe3 slp3 late3 srv3 hv av3 bd3 sh3 sc lt rule now3 st3 asl3 idl3 idn3 par div dee) (cwV 0 hts gL_plays_X7_lateness rfl rfl rfl (by decide +kernel) ⟨Nat.le_of_ble_eq_true rfl, Nat.le_of_ble_eq_true rfl⟩) (zqV hK hP [0, 1, 2, 3, 4, 5, 6, 7, 8, 9, 10, 11, 12, 13, 14, 15, 16, 17, 18, 19, 20, 21, 22, 23, 24, 25, 26, 27, 28] rfl 0 rfl rfl) rfl rfl hl.1 rfl (lv_room (Nat.le_of_ble_eq_true rfl)) dL_plays_46 ⟨Nat.le_of_ble_eq_true rfl, Nat.le_of_ble_eq_true rfl⟩) ?_
          refine lv_istore (lv' := [(10, .int (iI late3)), (9, .int (iI slp3)), (8, .int (iI srv3)), (7, .int (iI (llZ tdue3 tlat3 (-1) 1000000000 nT3))), (6, .int (iI st3)), (5, .int (iI now3)), (4, .int (iI k)), (3, .int (iI 1)), (0, .ref (q 0)), (1, .ref (q 29)), (2, .int (iI n))]) hx hb dL_plays_49 hl (by decide) rfl (fun ls hl => ?_)
          refine lv_aload_n hx hb dL_plays_51 rfl (lv_at hl 8 rfl) ?_
          refine lv_iconst (v := iI 1) hx hb dL_plays_52 rfl ?_
          refine zc_i (va_runV (As := [.int (iI 1)]) (rest := []) ⟨hx, hb, hml, hown, hts⟩ (kX7_ticksIn_ok l dC dI cI cJ cZ q pw co la vo cpar fr cdee use run3 nC tdue3 tlat3 twk3 nT3 edue3 elat3 ewk3 nE3 len3 cnt3 tin3 sp3 pe3 slp3 late3 srv3 hv av3 bd3 sh3 sc lt rule now3 st3 asl3 idl3 idn3 par div dee 1 (by first | assumption | omega | exact b2i_01 _) (by first | assumption | omega | exact b2i_01 _) H.size) (cwV 1 hts gL_plays_X7_ticksIn rfl rfl rfl (by decide +kernel) ⟨Nat.le_of_ble_eq_true rfl, Nat.le_of_ble_eq_true rfl⟩) (zpV hK hP hD [0, 1, 2, 3, 4, 5, 6, 7, 8, 9, 10, 11, 12, 13, 14, 15, 16, 17, 18, 19, 20, 21, 22, 23, 24, 25, 26, 27, 28] rfl rfl 0 rfl rfl) rfl rfl hl.1 rfl (lv_room (Nat.le_of_ble_eq_true rfl)) dL_plays_53 ⟨Nat.le_of_ble_eq_true rfl, Nat.le_of_ble_eq_true rfl⟩) hP hD hS hA [0, 1, 2, 3, 4, 5, 6, 7, 8, 9, 10, 11, 12, 13, 14, 15, 16, 17, 18, 19, 20, 21, 22, 23, 24, 25, 26, 27, 28] [29] rfl rfl rfl (by decide) (fun v_5 u_4 H locs r_3 hP hD hS => ?_)
          refine ze_i r_3 ?_
          have hP : va_P (dC, dI) vwCl (wPW cI cJ cZ q pw co la vo cpar fr cdee use run3 nC tdue3 tlat3 twk3 nT3 edue3 elat3 ewk3 nE3 len3 cnt3 tin3 sp3 pe3 slp3 late3 srv3 hv av3 bd3 sh3 sc lt rule now3 st3 asl3 idl3 idn3 par div dee w) H := hP.sub [1, 2, 3, 4, 5, 6, 7, 8, 9, 10, 11, 12, 13, 14, 15, 16, 17, 18, 19, 20, 21, 22, 23, 24, 25, 26, 27, 28, 29, 0] (z_fm rfl)
          have hD : va_D A (wPW cI cJ cZ q pw co la vo cpar fr cdee use run3 nC tdue3 tlat3 twk3 nT3 edue3 elat3 ewk3 nE3 len3 cnt3 tin3 sp3 pe3 slp3 late3 srv3 hv av3 bd3 sh3 sc lt rule now3 st3 asl3 idl3 idn3 par div dee w) := hD.sub [1, 2, 3, 4, 5, 6, 7, 8, 9, 10, 11, 12, 13, 14, 15, 16, 17, 18, 19, 20, 21, 22, 23, 24, 25, 26, 27, 28, 29, 0] (by decide) rfl
          refine lv_aload_n hx hb dL_plays_56 rfl (lv_at hl 8 rfl) ?_
          refine lv_iconst (v := iI 2) hx hb dL_plays_57 rfl ?_
          refine zc_i (va_runV (As := [.int (iI 2)]) (rest := [.int (iI (tin3 1))]) ⟨hx, hb, hml, hown, hts⟩ (kX7_ticksIn_ok l dC dI cI cJ cZ q pw co la vo cpar fr cdee use run3 nC tdue3 tlat3 twk3 nT3 edue3 elat3 ewk3 nE3 len3 cnt3 tin3 sp3 pe3 slp3 late3 srv3 hv av3 bd3 sh3 sc lt rule now3 st3 asl3 idl3 idn3 par div dee 2 (by first | assumption | omega | exact b2i_01 _) (by first | assumption | omega | exact b2i_01 _) H.size) (cwV 1 hts gL_plays_X7_ticksIn rfl rfl rfl (by decide +kernel) ⟨Nat.le_of_ble_eq_true rfl, Nat.le_of_ble_eq_true rfl⟩) (zpV hK hP hD [0, 1, 2, 3, 4, 5, 6, 7, 8, 9, 10, 11, 12, 13, 14, 15, 16, 17, 18, 19, 20, 21, 22, 23, 24, 25, 26, 27, 28] rfl rfl 0 rfl rfl) rfl rfl hl.1 rfl (lv_room (Nat.le_of_ble_eq_true rfl)) dL_plays_58 ⟨Nat.le_of_ble_eq_true rfl, Nat.le_of_ble_eq_true rfl⟩) hP hD hS hA [0, 1, 2, 3, 4, 5, 6, 7, 8, 9, 10, 11, 12, 13, 14, 15, 16, 17, 18, 19, 20, 21, 22, 23, 24, 25, 26, 27, 28] [29] rfl rfl rfl (by decide) (fun v_8 u_7 H locs r_6 hP hD hS => ?_)
          refine ze_i r_6 ?_
          have hP : va_P (dC, dI) vwCl (wPW cI cJ cZ q pw co la vo cpar fr cdee use run3 nC tdue3 tlat3 twk3 nT3 edue3 elat3 ewk3 nE3 len3 cnt3 tin3 sp3 pe3 slp3 late3 srv3 hv av3 bd3 sh3 sc lt rule now3 st3 asl3 idl3 idn3 par div dee w) H := hP.sub [1, 2, 3, 4, 5, 6, 7, 8, 9, 10, 11, 12, 13, 14, 15, 16, 17, 18, 19, 20, 21, 22, 23, 24, 25, 26, 27, 28, 29, 0] (z_fm rfl)
          have hD : va_D A (wPW cI cJ cZ q pw co la vo cpar fr cdee use run3 nC tdue3 tlat3 twk3 nT3 edue3 elat3 ewk3 nE3 len3 cnt3 tin3 sp3 pe3 slp3 late3 srv3 hv av3 bd3 sh3 sc lt rule now3 st3 asl3 idl3 idn3 par div dee w) := hD.sub [1, 2, 3, 4, 5, 6, 7, 8, 9, 10, 11, 12, 13, 14, 15, 16, 17, 18, 19, 20, 21, 22, 23, 24, 25, 26, 27, 28, 29, 0] (by decide) rfl
          refine zi_add hx hb dL_plays_61 ?_
          refine lv_aload_n hx hb dL_plays_62 rfl (lv_at hl 8 rfl) ?_
          refine lv_iconst (v := iI 3) hx hb dL_plays_63 rfl ?_
          refine zc_i (va_runV (As := [.int (iI 3)]) (rest := [.int (iI ((tin3 1) + (tin3 2)))]) ⟨hx, hb, hml, hown, hts⟩ (kX7_ticksIn_ok l dC dI cI cJ cZ q pw co la vo cpar fr cdee use run3 nC tdue3 tlat3 twk3 nT3 edue3 elat3 ewk3 nE3 len3 cnt3 tin3 sp3 pe3 slp3 late3 srv3 hv av3 bd3 sh3 sc lt rule now3 st3 asl3 idl3 idn3 par div dee 3 (by first | assumption | omega | exact b2i_01 _) (by first | assumption | omega | exact b2i_01 _) H.size) (cwV 1 hts gL_plays_X7_ticksIn rfl rfl rfl (by decide +kernel) ⟨Nat.le_of_ble_eq_true rfl, Nat.le_of_ble_eq_true rfl⟩) (zpV hK hP hD [0, 1, 2, 3, 4, 5, 6, 7, 8, 9, 10, 11, 12, 13, 14, 15, 16, 17, 18, 19, 20, 21, 22, 23, 24, 25, 26, 27, 28] rfl rfl 0 rfl rfl) rfl rfl hl.1 rfl (lv_room (Nat.le_of_ble_eq_true rfl)) dL_plays_64 ⟨Nat.le_of_ble_eq_true rfl, Nat.le_of_ble_eq_true rfl⟩) hP hD hS hA [0, 1, 2, 3, 4, 5, 6, 7, 8, 9, 10, 11, 12, 13, 14, 15, 16, 17, 18, 19, 20, 21, 22, 23, 24, 25, 26, 27, 28] [29] rfl rfl rfl (by decide) (fun v_11 u_10 H locs r_9 hP hD hS => ?_)
          refine ze_i r_9 ?_
          have hP : va_P (dC, dI) vwCl (wPW cI cJ cZ q pw co la vo cpar fr cdee use run3 nC tdue3 tlat3 twk3 nT3 edue3 elat3 ewk3 nE3 len3 cnt3 tin3 sp3 pe3 slp3 late3 srv3 hv av3 bd3 sh3 sc lt rule now3 st3 asl3 idl3 idn3 par div dee w) H := hP.sub [1, 2, 3, 4, 5, 6, 7, 8, 9, 10, 11, 12, 13, 14, 15, 16, 17, 18, 19, 20, 21, 22, 23, 24, 25, 26, 27, 28, 29, 0] (z_fm rfl)
          have hD : va_D A (wPW cI cJ cZ q pw co la vo cpar fr cdee use run3 nC tdue3 tlat3 twk3 nT3 edue3 elat3 ewk3 nE3 len3 cnt3 tin3 sp3 pe3 slp3 late3 srv3 hv av3 bd3 sh3 sc lt rule now3 st3 asl3 idl3 idn3 par div dee w) := hD.sub [1, 2, 3, 4, 5, 6, 7, 8, 9, 10, 11, 12, 13, 14, 15, 16, 17, 18, 19, 20, 21, 22, 23, 24, 25, 26, 27, 28, 29, 0] (by decide) rfl
          refine zi_add hx hb dL_plays_67 ?_
          refine lv_aload_n hx hb dL_plays_68 rfl (lv_at hl 8 rfl) ?_
          refine lv_iconst (v := iI 0) hx hb dL_plays_69 rfl ?_
          refine zc_i (va_runV (As := [.int (iI 0)]) (rest := [.int (iI (((tin3 1) + (tin3 2)) + (tin3 3)))]) ⟨hx, hb, hml, hown, hts⟩ (kX7_ticksIn_ok l dC dI cI cJ cZ q pw co la vo cpar fr cdee use run3 nC tdue3 tlat3 twk3 nT3 edue3 elat3 ewk3 nE3 len3 cnt3 tin3 sp3 pe3 slp3 late3 srv3 hv av3 bd3 sh3 sc lt rule now3 st3 asl3 idl3 idn3 par div dee 0 (by first | assumption | omega | exact b2i_01 _) (by first | assumption | omega | exact b2i_01 _) H.size) (cwV 1 hts gL_plays_X7_ticksIn rfl rfl rfl (by decide +kernel) ⟨Nat.le_of_ble_eq_true rfl, Nat.le_of_ble_eq_true rfl⟩) (zpV hK hP hD [0, 1, 2, 3, 4, 5, 6, 7, 8, 9, 10, 11, 12, 13, 14, 15, 16, 17, 18, 19, 20, 21, 22, 23, 24, 25, 26, 27, 28] rfl rfl 0 rfl rfl) rfl rfl hl.1 rfl (lv_room (Nat.le_of_ble_eq_true rfl)) dL_plays_70 ⟨Nat.le_of_ble_eq_true rfl, Nat.le_of_ble_eq_true rfl⟩) hP hD hS hA [0, 1, 2, 3, 4, 5, 6, 7, 8, 9, 10, 11, 12, 13, 14, 15, 16, 17, 18, 19, 20, 21, 22, 23, 24, 25, 26, 27, 28] [29] rfl rfl rfl (by decide) (fun v_14 u_13 H locs r_12 hP hD hS => ?_)
          refine ze_i r_12 ?_
          have hP : va_P (dC, dI) vwCl (wPW cI cJ cZ q pw co la vo cpar fr cdee use run3 nC tdue3 tlat3 twk3 nT3 edue3 elat3 ewk3 nE3 len3 cnt3 tin3 sp3 pe3 slp3 late3 srv3 hv av3 bd3 sh3 sc lt rule now3 st3 asl3 idl3 idn3 par div dee w) H := hP.sub [1, 2, 3, 4, 5, 6, 7, 8, 9, 10, 11, 12, 13, 14, 15, 16, 17, 18, 19, 20, 21, 22, 23, 24, 25, 26, 27, 28, 29, 0] (z_fm rfl)
          have hD : va_D A (wPW cI cJ cZ q pw co la vo cpar fr cdee use run3 nC tdue3 tlat3 twk3 nT3 edue3 elat3 ewk3 nE3 len3 cnt3 tin3 sp3 pe3 slp3 late3 srv3 hv av3 bd3 sh3 sc lt rule now3 st3 asl3 idl3 idn3 par div dee w) := hD.sub [1, 2, 3, 4, 5, 6, 7, 8, 9, 10, 11, 12, 13, 14, 15, 16, 17, 18, 19, 20, 21, 22, 23, 24, 25, 26, 27, 28, 29, 0] (by decide) rfl
          refine zi_add hx hb dL_plays_73 ?_
          refine lv_istore (lv' := [(11, .int (iI ((((tin3 1) + (tin3 2)) + (tin3 3)) + (tin3 0)))), (10, .int (iI late3)), (9, .int (iI slp3)), (8, .int (iI srv3)), (7, .int (iI (llZ tdue3 tlat3 (-1) 1000000000 nT3))), (6, .int (iI st3)), (5, .int (iI now3)), (4, .int (iI k)), (3, .int (iI 1)), (0, .ref (q 0)), (1, .ref (q 29)), (2, .int (iI n))]) hx hb dL_plays_74 hl (by decide) rfl (fun ls hl => ?_)
          refine lv_aload_n hx hb dL_plays_76 rfl (lv_at hl 9 rfl) ?_
          refine zc_pl (va_runV (As := []) (rest := []) ⟨hx, hb, hml, hown, hts⟩ (kX7_spent l dC dI cI cJ cZ q pw co la vo cpar fr cdee use run3 nC tdue3 tlat3 twk3 nT3 edue3 elat3 ewk3 nE3 len3 cnt3 tin3 sp3 pe3 slp3 late3 srv3 hv av3 bd3 sh3 sc lt rule now3 st3 asl3 idl3 idn3 par div dee) (cwV 0 hts gL_plays_X7_spent rfl rfl rfl (by decide +kernel) ⟨Nat.le_of_ble_eq_true rfl, Nat.le_of_ble_eq_true rfl⟩) (zqV hK hP [0, 1, 2, 3, 4, 5, 6, 7, 8, 9, 10, 11, 12, 13, 14, 15, 16, 17, 18, 19, 20, 21, 22, 23, 24, 25, 26, 27, 28] rfl 0 rfl rfl) rfl rfl hl.1 rfl (lv_room (Nat.le_of_ble_eq_true rfl)) dL_plays_77 ⟨Nat.le_of_ble_eq_true rfl, Nat.le_of_ble_eq_true rfl⟩) ?_
          refine lv_lstore (lv' := [(12, .long (lI sp3)), (11, .int (iI ((((tin3 1) + (tin3 2)) + (tin3 3)) + (tin3 0)))), (10, .int (iI late3)), (9, .int (iI slp3)), (8, .int (iI srv3)), (7, .int (iI (llZ tdue3 tlat3 (-1) 1000000000 nT3))), (6, .int (iI st3)), (5, .int (iI now3)), (4, .int (iI k)), (3, .int (iI 1)), (0, .ref (q 0)), (1, .ref (q 29)), (2, .int (iI n))]) hx hb dL_plays_80 hl (by decide) rfl (fun ls hl => ?_)
          refine lv_aload_n hx hb dL_plays_82 rfl (lv_at hl 10 rfl) ?_
          refine zc_pi (va_runV (As := []) (rest := []) ⟨hx, hb, hml, hown, hts⟩ (kX7_available l dC dI cI cJ cZ q pw co la vo cpar fr cdee use run3 nC tdue3 tlat3 twk3 nT3 edue3 elat3 ewk3 nE3 len3 cnt3 tin3 sp3 pe3 slp3 late3 srv3 hv av3 bd3 sh3 sc lt rule now3 st3 asl3 idl3 idn3 par div dee) (cwV 0 hts gL_plays_X7_available rfl rfl rfl (by decide +kernel) ⟨Nat.le_of_ble_eq_true rfl, Nat.le_of_ble_eq_true rfl⟩) (zqV hK hP [0, 1, 2, 3, 4, 5, 6, 7, 8, 9, 10, 11, 12, 13, 14, 15, 16, 17, 18, 19, 20, 21, 22, 23, 24, 25, 26, 27, 28] rfl 0 rfl rfl) rfl rfl hl.1 rfl (lv_room (Nat.le_of_ble_eq_true rfl)) dL_plays_83 ⟨Nat.le_of_ble_eq_true rfl, Nat.le_of_ble_eq_true rfl⟩) ?_
          refine zi_l hx hb (by omega) dL_plays_86 ?_
          refine lv_aload_n hx hb dL_plays_87 rfl (lv_at hl 10 rfl) ?_
          refine zc_pi (va_runV (As := []) (rest := [.long (lI av3)]) ⟨hx, hb, hml, hown, hts⟩ (kX7_bound l dC dI cI cJ cZ q pw co la vo cpar fr cdee use run3 nC tdue3 tlat3 twk3 nT3 edue3 elat3 ewk3 nE3 len3 cnt3 tin3 sp3 pe3 slp3 late3 srv3 hv av3 bd3 sh3 sc lt rule now3 st3 asl3 idl3 idn3 par div dee) (cwV 0 hts gL_plays_X7_bound rfl rfl rfl (by decide +kernel) ⟨Nat.le_of_ble_eq_true rfl, Nat.le_of_ble_eq_true rfl⟩) (zqV hK hP [0, 1, 2, 3, 4, 5, 6, 7, 8, 9, 10, 11, 12, 13, 14, 15, 16, 17, 18, 19, 20, 21, 22, 23, 24, 25, 26, 27, 28] rfl 0 rfl rfl) rfl rfl hl.1 rfl (lv_room (Nat.le_of_ble_eq_true rfl)) dL_plays_88 ⟨Nat.le_of_ble_eq_true rfl, Nat.le_of_ble_eq_true rfl⟩) ?_
          refine zi_l hx hb (by omega) dL_plays_91 ?_
          refine zl_add hx hb dL_plays_92 ?_
          refine lv_lstore (lv' := [(14, .long (lI (av3 + bd3))), (12, .long (lI sp3)), (11, .int (iI ((((tin3 1) + (tin3 2)) + (tin3 3)) + (tin3 0)))), (10, .int (iI late3)), (9, .int (iI slp3)), (8, .int (iI srv3)), (7, .int (iI (llZ tdue3 tlat3 (-1) 1000000000 nT3))), (6, .int (iI st3)), (5, .int (iI now3)), (4, .int (iI k)), (3, .int (iI 1)), (0, .ref (q 0)), (1, .ref (q 29)), (2, .int (iI n))]) hx hb dL_plays_93 hl (by decide) rfl (fun ls hl => ?_)
          refine lv_aload_n hx hb dL_plays_95 rfl (lv_at hl 11 rfl) ?_
          refine lv_iconst (v := iI 1) hx hb dL_plays_96 rfl ?_
          refine zc_i (va_runV (As := [.int (iI 1)]) (rest := []) ⟨hx, hb, hml, hown, hts⟩ (kX7_play_ok l dC dI cI cJ cZ q pw co la vo cpar fr cdee use run3 nC tdue3 tlat3 twk3 nT3 edue3 elat3 ewk3 nE3 len3 cnt3 tin3 sp3 pe3 slp3 late3 srv3 hv av3 bd3 sh3 sc lt rule now3 st3 asl3 idl3 idn3 par div dee 1 (by first | assumption | omega | exact b2i_01 _) (by first | assumption | omega | exact b2i_01 _) (by first | assumption | omega | exact b2i_01 _) (by first | assumption | omega | exact b2i_01 _) (by first | assumption | omega | exact b2i_01 _) (by first | assumption | omega | exact b2i_01 _) (by first | assumption | omega | exact b2i_01 _) (by first | assumption | omega | exact b2i_01 _) (by first | assumption | omega | exact b2i_01 _) (by first | assumption | omega | exact b2i_01 _) (by first | assumption | omega | exact b2i_01 _) (by first | assumption | omega | exact b2i_01 _) (by first | assumption | omega | exact b2i_01 _) (by first | assumption | omega | exact b2i_01 _) (by first | assumption | omega | exact b2i_01 _) (by first | assumption | omega | exact b2i_01 _) (by first | assumption | omega | exact b2i_01 _) (by first | assumption | omega | exact b2i_01 _) (by first | assumption | omega | exact b2i_01 _) (by first | assumption | omega | exact b2i_01 _) H.size) (cwV 1 hts gL_plays_X7_play rfl rfl rfl (by decide +kernel) ⟨Nat.le_of_ble_eq_true rfl, Nat.le_of_ble_eq_true rfl⟩) (zpV hK hP hD [0, 1, 2, 3, 4, 5, 6, 7, 8, 9, 10, 11, 12, 13, 14, 15, 16, 17, 18, 19, 20, 21, 22, 23, 24, 25, 26, 27, 28] rfl rfl 0 rfl rfl) rfl rfl hl.1 rfl (lv_room (Nat.le_of_ble_eq_true rfl)) dL_plays_97 ⟨Nat.le_of_ble_eq_true rfl, Nat.le_of_ble_eq_true rfl⟩) hP hD hS hA [0, 1, 2, 3, 4, 5, 6, 7, 8, 9, 10, 11, 12, 13, 14, 15, 16, 17, 18, 19, 20, 21, 22, 23, 24, 25, 26, 27, 28] [29] rfl rfl rfl (by decide) (fun v_17 u_16 H locs r_15 hP hD hS => ?_)
          obtain ⟨stx_18, aslx_19, nowx_20, nTx_21, tduex_22, tlatx_23, twkx_24, nEx_25, eduex_26, ewkx_27, spx_28, pex_29, tinx_30, slpx_31, latex_32, srvx_33, avx_34, bdx_35, shx_36, idlx_37, idnx_38, lenx_39, cntx_40, elatx_41, runx_42⟩ := u_16
          obtain ⟨v_43, r_15⟩ := r_15
          refine ze_i v_43 ?_
          have r_15 : (stx_18, aslx_19, nowx_20, nTx_21, tduex_22, tlatx_23, twkx_24, nEx_25, eduex_26, ewkx_27, spx_28, pex_29, tinx_30, slpx_31, latex_32, srvx_33, avx_34, bdx_35, shx_36, idlx_37, idnx_38) = itT pw co la hv rule (dzM vo par dee use nC) (Int.toNat 1) (st3, asl3, now3, nT3, tdue3, tlat3, twk3, nE3, edue3, ewk3, sp3, pe3, tin3, slp3, late3, srv3, av3, bd3, sh3, idl3, idn3) ∧ idR lenx_39 cntx_40 idlx_37 idnx_38 ∧ rgZ elatx_41 12 1000000 ∧ tfZ runx_42 := r_15
          have hP : va_P (dC, dI) vwCl (wPW cI cJ cZ q pw co la vo cpar fr cdee use runx_42 nC tduex_22 tlatx_23 twkx_24 nTx_21 eduex_26 elatx_41 ewkx_27 nEx_25 lenx_39 cntx_40 tinx_30 spx_28 pex_29 slpx_31 latex_32 srvx_33 hv avx_34 bdx_35 shx_36 sc lt rule nowx_20 stx_18 aslx_19 idlx_37 idnx_38 par div dee w) H := hP.sub [1, 2, 3, 4, 5, 6, 7, 8, 9, 10, 11, 12, 13, 14, 15, 16, 17, 18, 19, 20, 21, 22, 23, 24, 25, 26, 27, 28, 29, 0] (z_fm rfl)
          have hD : va_D A (wPW cI cJ cZ q pw co la vo cpar fr cdee use runx_42 nC tduex_22 tlatx_23 twkx_24 nTx_21 eduex_26 elatx_41 ewkx_27 nEx_25 lenx_39 cntx_40 tinx_30 spx_28 pex_29 slpx_31 latex_32 srvx_33 hv avx_34 bdx_35 shx_36 sc lt rule nowx_20 stx_18 aslx_19 idlx_37 idnx_38 par div dee w) := hD.sub [1, 2, 3, 4, 5, 6, 7, 8, 9, 10, 11, 12, 13, 14, 15, 16, 17, 18, 19, 20, 21, 22, 23, 24, 25, 26, 27, 28, 29, 0] (by decide) rfl
          obtain ⟨ht9, hid9, hel9, hrun9⟩ := r_15
          rw [it_1] at ht9
          have hf9 := pl_f hpw hco hla hhv hdz hti hsb (by omega) ht9
          have hI9 := lj_tick hI3 hdz (by omega) ht9 hid9 hel9 hrun9
          obtain ⟨f1, f2, f3, f4, f5, f6, f7, f8, f9, f10, f11⟩ := hf9
          obtain ⟨-, -, -, hti9, -⟩ := id hI9
          obtain ⟨-, -, j3, j4, j5, j6, j7, -⟩ := id hti9
          have hn9 := nx_ll j5 j6 j4
          have hl9 := hla stx_18 (by omega) (by omega)
          have hp9 := hpw stx_18 (by omega) (by omega)
          have hc9 := hco stx_18 (by omega) (by omega)
          have hp0 := hpw 0 (by omega) (by omega)
          have hl3 := hla st3 (by omega) (by omega)
          refine lv_iload hx hb dL_plays_100 (lv_at hl 8 rfl) ?_
          refine lv_iconst (v := iI 1) hx hb dL_plays_102 rfl ?_
          refine zi_add hx hb dL_plays_103 ?_
          refine zi_sameN (tgt := 152) hx hb (by exact f1) dL_plays_104 (by decide) ?_
          refine lv_aload_n hx hb dL_plays_107 rfl (lv_at hl 11 rfl) ?_
          refine zc_pi (va_runV (As := []) (rest := []) ⟨hx, hb, hml, hown, hts⟩ (kX7_now l dC dI cI cJ cZ q pw co la vo cpar fr cdee use runx_42 nC tduex_22 tlatx_23 twkx_24 nTx_21 eduex_26 elatx_41 ewkx_27 nEx_25 lenx_39 cntx_40 tinx_30 spx_28 pex_29 slpx_31 latex_32 srvx_33 hv avx_34 bdx_35 shx_36 sc lt rule nowx_20 stx_18 aslx_19 idlx_37 idnx_38 par div dee) (cwV 0 hts gL_plays_X7_now rfl rfl rfl (by decide +kernel) ⟨Nat.le_of_ble_eq_true rfl, Nat.le_of_ble_eq_true rfl⟩) (zqV hK hP [0, 1, 2, 3, 4, 5, 6, 7, 8, 9, 10, 11, 12, 13, 14, 15, 16, 17, 18, 19, 20, 21, 22, 23, 24, 25, 26, 27, 28] rfl 0 rfl rfl) rfl rfl hl.1 rfl (lv_room (Nat.le_of_ble_eq_true rfl)) dL_plays_108 ⟨Nat.le_of_ble_eq_true rfl, Nat.le_of_ble_eq_true rfl⟩) ?_
          refine lv_iload hx hb dL_plays_111 (lv_at hl 8 rfl) ?_
          refine lv_iconst (v := iI 1) hx hb dL_plays_113 rfl ?_
          refine zi_add hx hb dL_plays_114 ?_
          refine zi_sameN (tgt := 152) hx hb (by exact f1) dL_plays_115 (by decide) ?_
          refine lv_aload_n hx hb dL_plays_118 rfl (lv_at hl 11 rfl) ?_
          refine lv_iconst (v := iI 0) hx hb dL_plays_119 rfl ?_
          refine zc_i (va_runV (As := [.int (iI 0)]) (rest := []) ⟨hx, hb, hml, hown, hts⟩ (kX7_ticksIn_ok l dC dI cI cJ cZ q pw co la vo cpar fr cdee use runx_42 nC tduex_22 tlatx_23 twkx_24 nTx_21 eduex_26 elatx_41 ewkx_27 nEx_25 lenx_39 cntx_40 tinx_30 spx_28 pex_29 slpx_31 latex_32 srvx_33 hv avx_34 bdx_35 shx_36 sc lt rule nowx_20 stx_18 aslx_19 idlx_37 idnx_38 par div dee 0 (by first | assumption | omega | exact b2i_01 _) (by first | assumption | omega | exact b2i_01 _) H.size) (cwV 1 hts gL_plays_X7_ticksIn rfl rfl rfl (by decide +kernel) ⟨Nat.le_of_ble_eq_true rfl, Nat.le_of_ble_eq_true rfl⟩) (zpV hK hP hD [0, 1, 2, 3, 4, 5, 6, 7, 8, 9, 10, 11, 12, 13, 14, 15, 16, 17, 18, 19, 20, 21, 22, 23, 24, 25, 26, 27, 28] rfl rfl 0 rfl rfl) rfl rfl hl.1 rfl (lv_room (Nat.le_of_ble_eq_true rfl)) dL_plays_120 ⟨Nat.le_of_ble_eq_true rfl, Nat.le_of_ble_eq_true rfl⟩) hP hD hS hA [0, 1, 2, 3, 4, 5, 6, 7, 8, 9, 10, 11, 12, 13, 14, 15, 16, 17, 18, 19, 20, 21, 22, 23, 24, 25, 26, 27, 28] [29] rfl rfl rfl (by decide) (fun v_46 u_45 H locs r_44 hP hD hS => ?_)
          refine ze_i r_44 ?_
          have hP : va_P (dC, dI) vwCl (wPW cI cJ cZ q pw co la vo cpar fr cdee use runx_42 nC tduex_22 tlatx_23 twkx_24 nTx_21 eduex_26 elatx_41 ewkx_27 nEx_25 lenx_39 cntx_40 tinx_30 spx_28 pex_29 slpx_31 latex_32 srvx_33 hv avx_34 bdx_35 shx_36 sc lt rule nowx_20 stx_18 aslx_19 idlx_37 idnx_38 par div dee w) H := hP.sub [1, 2, 3, 4, 5, 6, 7, 8, 9, 10, 11, 12, 13, 14, 15, 16, 17, 18, 19, 20, 21, 22, 23, 24, 25, 26, 27, 28, 29, 0] (z_fm rfl)
          have hD : va_D A (wPW cI cJ cZ q pw co la vo cpar fr cdee use runx_42 nC tduex_22 tlatx_23 twkx_24 nTx_21 eduex_26 elatx_41 ewkx_27 nEx_25 lenx_39 cntx_40 tinx_30 spx_28 pex_29 slpx_31 latex_32 srvx_33 hv avx_34 bdx_35 shx_36 sc lt rule nowx_20 stx_18 aslx_19 idlx_37 idnx_38 par div dee w) := hD.sub [1, 2, 3, 4, 5, 6, 7, 8, 9, 10, 11, 12, 13, 14, 15, 16, 17, 18, 19, 20, 21, 22, 23, 24, 25, 26, 27, 28, 29, 0] (by decide) rfl
          refine lv_aload_n hx hb dL_plays_123 rfl (lv_at hl 11 rfl) ?_
          refine lv_iconst (v := iI 1) hx hb dL_plays_124 rfl ?_
          refine zc_i (va_runV (As := [.int (iI 1)]) (rest := [.int (iI (tinx_30 0))]) ⟨hx, hb, hml, hown, hts⟩ (kX7_ticksIn_ok l dC dI cI cJ cZ q pw co la vo cpar fr cdee use runx_42 nC tduex_22 tlatx_23 twkx_24 nTx_21 eduex_26 elatx_41 ewkx_27 nEx_25 lenx_39 cntx_40 tinx_30 spx_28 pex_29 slpx_31 latex_32 srvx_33 hv avx_34 bdx_35 shx_36 sc lt rule nowx_20 stx_18 aslx_19 idlx_37 idnx_38 par div dee 1 (by first | assumption | omega | exact b2i_01 _) (by first | assumption | omega | exact b2i_01 _) H.size) (cwV 1 hts gL_plays_X7_ticksIn rfl rfl rfl (by decide +kernel) ⟨Nat.le_of_ble_eq_true rfl, Nat.le_of_ble_eq_true rfl⟩) (zpV hK hP hD [0, 1, 2, 3, 4, 5, 6, 7, 8, 9, 10, 11, 12, 13, 14, 15, 16, 17, 18, 19, 20, 21, 22, 23, 24, 25, 26, 27, 28] rfl rfl 0 rfl rfl) rfl rfl hl.1 rfl (lv_room (Nat.le_of_ble_eq_true rfl)) dL_plays_125 ⟨Nat.le_of_ble_eq_true rfl, Nat.le_of_ble_eq_true rfl⟩) hP hD hS hA [0, 1, 2, 3, 4, 5, 6, 7, 8, 9, 10, 11, 12, 13, 14, 15, 16, 17, 18, 19, 20, 21, 22, 23, 24, 25, 26, 27, 28] [29] rfl rfl rfl (by decide) (fun v_49 u_48 H locs r_47 hP hD hS => ?_)
          refine ze_i r_47 ?_
          have hP : va_P (dC, dI) vwCl (wPW cI cJ cZ q pw co la vo cpar fr cdee use runx_42 nC tduex_22 tlatx_23 twkx_24 nTx_21 eduex_26 elatx_41 ewkx_27 nEx_25 lenx_39 cntx_40 tinx_30 spx_28 pex_29 slpx_31 latex_32 srvx_33 hv avx_34 bdx_35 shx_36 sc lt rule nowx_20 stx_18 aslx_19 idlx_37 idnx_38 par div dee w) H := hP.sub [1, 2, 3, 4, 5, 6, 7, 8, 9, 10, 11, 12, 13, 14, 15, 16, 17, 18, 19, 20, 21, 22, 23, 24, 25, 26, 27, 28, 29, 0] (z_fm rfl)
          have hD : va_D A (wPW cI cJ cZ q pw co la vo cpar fr cdee use runx_42 nC tduex_22 tlatx_23 twkx_24 nTx_21 eduex_26 elatx_41 ewkx_27 nEx_25 lenx_39 cntx_40 tinx_30 spx_28 pex_29 slpx_31 latex_32 srvx_33 hv avx_34 bdx_35 shx_36 sc lt rule nowx_20 stx_18 aslx_19 idlx_37 idnx_38 par div dee w) := hD.sub [1, 2, 3, 4, 5, 6, 7, 8, 9, 10, 11, 12, 13, 14, 15, 16, 17, 18, 19, 20, 21, 22, 23, 24, 25, 26, 27, 28, 29, 0] (by decide) rfl
          refine zi_add hx hb dL_plays_128 ?_
          refine lv_aload_n hx hb dL_plays_129 rfl (lv_at hl 11 rfl) ?_
          refine lv_iconst (v := iI 2) hx hb dL_plays_130 rfl ?_
          refine zc_i (va_runV (As := [.int (iI 2)]) (rest := [.int (iI ((tinx_30 0) + (tinx_30 1)))]) ⟨hx, hb, hml, hown, hts⟩ (kX7_ticksIn_ok l dC dI cI cJ cZ q pw co la vo cpar fr cdee use runx_42 nC tduex_22 tlatx_23 twkx_24 nTx_21 eduex_26 elatx_41 ewkx_27 nEx_25 lenx_39 cntx_40 tinx_30 spx_28 pex_29 slpx_31 latex_32 srvx_33 hv avx_34 bdx_35 shx_36 sc lt rule nowx_20 stx_18 aslx_19 idlx_37 idnx_38 par div dee 2 (by first | assumption | omega | exact b2i_01 _) (by first | assumption | omega | exact b2i_01 _) H.size) (cwV 1 hts gL_plays_X7_ticksIn rfl rfl rfl (by decide +kernel) ⟨Nat.le_of_ble_eq_true rfl, Nat.le_of_ble_eq_true rfl⟩) (zpV hK hP hD [0, 1, 2, 3, 4, 5, 6, 7, 8, 9, 10, 11, 12, 13, 14, 15, 16, 17, 18, 19, 20, 21, 22, 23, 24, 25, 26, 27, 28] rfl rfl 0 rfl rfl) rfl rfl hl.1 rfl (lv_room (Nat.le_of_ble_eq_true rfl)) dL_plays_131 ⟨Nat.le_of_ble_eq_true rfl, Nat.le_of_ble_eq_true rfl⟩) hP hD hS hA [0, 1, 2, 3, 4, 5, 6, 7, 8, 9, 10, 11, 12, 13, 14, 15, 16, 17, 18, 19, 20, 21, 22, 23, 24, 25, 26, 27, 28] [29] rfl rfl rfl (by decide) (fun v_52 u_51 H locs r_50 hP hD hS => ?_)
          refine ze_i r_50 ?_
          have hP : va_P (dC, dI) vwCl (wPW cI cJ cZ q pw co la vo cpar fr cdee use runx_42 nC tduex_22 tlatx_23 twkx_24 nTx_21 eduex_26 elatx_41 ewkx_27 nEx_25 lenx_39 cntx_40 tinx_30 spx_28 pex_29 slpx_31 latex_32 srvx_33 hv avx_34 bdx_35 shx_36 sc lt rule nowx_20 stx_18 aslx_19 idlx_37 idnx_38 par div dee w) H := hP.sub [1, 2, 3, 4, 5, 6, 7, 8, 9, 10, 11, 12, 13, 14, 15, 16, 17, 18, 19, 20, 21, 22, 23, 24, 25, 26, 27, 28, 29, 0] (z_fm rfl)
          have hD : va_D A (wPW cI cJ cZ q pw co la vo cpar fr cdee use runx_42 nC tduex_22 tlatx_23 twkx_24 nTx_21 eduex_26 elatx_41 ewkx_27 nEx_25 lenx_39 cntx_40 tinx_30 spx_28 pex_29 slpx_31 latex_32 srvx_33 hv avx_34 bdx_35 shx_36 sc lt rule nowx_20 stx_18 aslx_19 idlx_37 idnx_38 par div dee w) := hD.sub [1, 2, 3, 4, 5, 6, 7, 8, 9, 10, 11, 12, 13, 14, 15, 16, 17, 18, 19, 20, 21, 22, 23, 24, 25, 26, 27, 28, 29, 0] (by decide) rfl
          refine zi_add hx hb dL_plays_134 ?_
          refine lv_aload_n hx hb dL_plays_135 rfl (lv_at hl 11 rfl) ?_
          refine lv_iconst (v := iI 3) hx hb dL_plays_136 rfl ?_
          refine zc_i (va_runV (As := [.int (iI 3)]) (rest := [.int (iI (((tinx_30 0) + (tinx_30 1)) + (tinx_30 2)))]) ⟨hx, hb, hml, hown, hts⟩ (kX7_ticksIn_ok l dC dI cI cJ cZ q pw co la vo cpar fr cdee use runx_42 nC tduex_22 tlatx_23 twkx_24 nTx_21 eduex_26 elatx_41 ewkx_27 nEx_25 lenx_39 cntx_40 tinx_30 spx_28 pex_29 slpx_31 latex_32 srvx_33 hv avx_34 bdx_35 shx_36 sc lt rule nowx_20 stx_18 aslx_19 idlx_37 idnx_38 par div dee 3 (by first | assumption | omega | exact b2i_01 _) (by first | assumption | omega | exact b2i_01 _) H.size) (cwV 1 hts gL_plays_X7_ticksIn rfl rfl rfl (by decide +kernel) ⟨Nat.le_of_ble_eq_true rfl, Nat.le_of_ble_eq_true rfl⟩) (zpV hK hP hD [0, 1, 2, 3, 4, 5, 6, 7, 8, 9, 10, 11, 12, 13, 14, 15, 16, 17, 18, 19, 20, 21, 22, 23, 24, 25, 26, 27, 28] rfl rfl 0 rfl rfl) rfl rfl hl.1 rfl (lv_room (Nat.le_of_ble_eq_true rfl)) dL_plays_137 ⟨Nat.le_of_ble_eq_true rfl, Nat.le_of_ble_eq_true rfl⟩) hP hD hS hA [0, 1, 2, 3, 4, 5, 6, 7, 8, 9, 10, 11, 12, 13, 14, 15, 16, 17, 18, 19, 20, 21, 22, 23, 24, 25, 26, 27, 28] [29] rfl rfl rfl (by decide) (fun v_55 u_54 H locs r_53 hP hD hS => ?_)
          refine ze_i r_53 ?_
          have hP : va_P (dC, dI) vwCl (wPW cI cJ cZ q pw co la vo cpar fr cdee use runx_42 nC tduex_22 tlatx_23 twkx_24 nTx_21 eduex_26 elatx_41 ewkx_27 nEx_25 lenx_39 cntx_40 tinx_30 spx_28 pex_29 slpx_31 latex_32 srvx_33 hv avx_34 bdx_35 shx_36 sc lt rule nowx_20 stx_18 aslx_19 idlx_37 idnx_38 par div dee w) H := hP.sub [1, 2, 3, 4, 5, 6, 7, 8, 9, 10, 11, 12, 13, 14, 15, 16, 17, 18, 19, 20, 21, 22, 23, 24, 25, 26, 27, 28, 29, 0] (z_fm rfl)
          have hD : va_D A (wPW cI cJ cZ q pw co la vo cpar fr cdee use runx_42 nC tduex_22 tlatx_23 twkx_24 nTx_21 eduex_26 elatx_41 ewkx_27 nEx_25 lenx_39 cntx_40 tinx_30 spx_28 pex_29 slpx_31 latex_32 srvx_33 hv avx_34 bdx_35 shx_36 sc lt rule nowx_20 stx_18 aslx_19 idlx_37 idnx_38 par div dee w) := hD.sub [1, 2, 3, 4, 5, 6, 7, 8, 9, 10, 11, 12, 13, 14, 15, 16, 17, 18, 19, 20, 21, 22, 23, 24, 25, 26, 27, 28, 29, 0] (by decide) rfl
          refine zi_add hx hb dL_plays_140 ?_
          refine lv_iload hx hb dL_plays_141 (lv_at hl 2 rfl) ?_
          refine lv_iconst (v := iI 1) hx hb dL_plays_143 rfl ?_
          refine zi_add hx hb dL_plays_144 ?_
          refine zi_sameN (tgt := 152) hx hb (by rw [f6]; exact tin_s f7) dL_plays_145 (by decide) ?_
          refine lv_iconst (v := iI 1) hx hb dL_plays_148 rfl ?_
          refine lv_goto (tgt := 153) hx hb dL_plays_149 (by decide) ?_
          refine lv_istore_n (lv' := [(3, .int (iI 1)), (14, .long (lI (av3 + bd3))), (12, .long (lI sp3)), (11, .int (iI ((((tin3 1) + (tin3 2)) + (tin3 3)) + (tin3 0)))), (10, .int (iI late3)), (9, .int (iI slp3)), (8, .int (iI srv3)), (7, .int (iI (llZ tdue3 tlat3 (-1) 1000000000 nT3))), (6, .int (iI st3)), (5, .int (iI now3)), (4, .int (iI k)), (0, .ref (q 0)), (1, .ref (q 29)), (2, .int (iI n))]) hx hb dL_plays_153 rfl hl (by decide) rfl (fun ls hl => ?_)
          refine lv_aload_n hx hb dL_plays_154 rfl (lv_at hl 11 rfl) ?_
          refine zc_pi (va_runV (As := []) (rest := []) ⟨hx, hb, hml, hown, hts⟩ (kX7_state l dC dI cI cJ cZ q pw co la vo cpar fr cdee use runx_42 nC tduex_22 tlatx_23 twkx_24 nTx_21 eduex_26 elatx_41 ewkx_27 nEx_25 lenx_39 cntx_40 tinx_30 spx_28 pex_29 slpx_31 latex_32 srvx_33 hv avx_34 bdx_35 shx_36 sc lt rule nowx_20 stx_18 aslx_19 idlx_37 idnx_38 par div dee) (cwV 0 hts gL_plays_X7_state rfl rfl rfl (by decide +kernel) ⟨Nat.le_of_ble_eq_true rfl, Nat.le_of_ble_eq_true rfl⟩) (zqV hK hP [0, 1, 2, 3, 4, 5, 6, 7, 8, 9, 10, 11, 12, 13, 14, 15, 16, 17, 18, 19, 20, 21, 22, 23, 24, 25, 26, 27, 28] rfl 0 rfl rfl) rfl rfl hl.1 rfl (lv_room (Nat.le_of_ble_eq_true rfl)) dL_plays_155 ⟨Nat.le_of_ble_eq_true rfl, Nat.le_of_ble_eq_true rfl⟩) ?_
          refine lv_istore (lv' := [(16, .int (iI stx_18)), (3, .int (iI 1)), (14, .long (lI (av3 + bd3))), (12, .long (lI sp3)), (11, .int (iI ((((tin3 1) + (tin3 2)) + (tin3 3)) + (tin3 0)))), (10, .int (iI late3)), (9, .int (iI slp3)), (8, .int (iI srv3)), (7, .int (iI (llZ tdue3 tlat3 (-1) 1000000000 nT3))), (6, .int (iI st3)), (5, .int (iI now3)), (4, .int (iI k)), (0, .ref (q 0)), (1, .ref (q 29)), (2, .int (iI n))]) hx hb dL_plays_158 hl (by decide) rfl (fun ls hl => ?_)
          have L179 : ∀ (lf : Int), ((lf = 100000 ∧ nxZ tlatx_23 nTx_21 = 1000000000) ∨ (lf = nxZ tlatx_23 nTx_21 - now3 ∧ 0 ≤ nxZ tlatx_23 nTx_21 ∧ nxZ tlatx_23 nTx_21 ≤ 1000000)) → ∀ (H : Heap) (locs : List Loc), va_P (dC, dI) vwCl (wPW cI cJ cZ q pw co la vo cpar fr cdee use runx_42 nC tduex_22 tlatx_23 twkx_24 nTx_21 eduex_26 elatx_41 ewkx_27 nEx_25 lenx_39 cntx_40 tinx_30 spx_28 pex_29 slpx_31 latex_32 srvx_33 hv avx_34 bdx_35 shx_36 sc lt rule nowx_20 stx_18 aslx_19 idlx_37 idnx_38 par div dee w) H → va_D A (wPW cI cJ cZ q pw co la vo cpar fr cdee use runx_42 nC tduex_22 tlatx_23 twkx_24 nTx_21 eduex_26 elatx_41 ewkx_27 nEx_25 lenx_39 cntx_40 tinx_30 spx_28 pex_29 slpx_31 latex_32 srvx_33 hv avx_34 bdx_35 shx_36 sc lt rule nowx_20 stx_18 aslx_19 idlx_37 idnx_38 par div dee w) → va_S A s.heap H locs → ∀ ls : Array Slot, lv_has ls 23 [(16, .int (iI stx_18)), (3, .int (iI 1)), (14, .long (lI (av3 + bd3))), (12, .long (lI sp3)), (11, .int (iI ((((tin3 1) + (tin3 2)) + (tin3 3)) + (tin3 0)))), (10, .int (iI late3)), (9, .int (iI slp3)), (8, .int (iI srv3)), (7, .int (iI (llZ tdue3 tlat3 (-1) 1000000000 nT3))), (6, .int (iI st3)), (5, .int (iI now3)), (4, .int (iI k)), (0, .ref (q 0)), (1, .ref (q 29)), (2, .int (iI n))] → W p l e rmL_plays s m ([.ref (q 0), .ref (q 29), .int (iI n)] : List Value).toArray below meth c H locs 0 0 Q (F0 m 179 ls [.int (iI lf)]) := by
            intro lf hlf H locs hP hD hS ls hl
            refine lv_istore (lv' := [(17, .int (iI lf)), (16, .int (iI stx_18)), (3, .int (iI 1)), (14, .long (lI (av3 + bd3))), (12, .long (lI sp3)), (11, .int (iI ((((tin3 1) + (tin3 2)) + (tin3 3)) + (tin3 0)))), (10, .int (iI late3)), (9, .int (iI slp3)), (8, .int (iI srv3)), (7, .int (iI (llZ tdue3 tlat3 (-1) 1000000000 nT3))), (6, .int (iI st3)), (5, .int (iI now3)), (4, .int (iI k)), (0, .ref (q 0)), (1, .ref (q 29)), (2, .int (iI n))]) hx hb dL_plays_179 hl (by decide) rfl (fun ls hl => ?_)
            have L210 : ∀ (tk : Int), (tk = poZ pw la stx_18 (nxZ tlatx_23 nTx_21) now3) → ∀ (H : Heap) (locs : List Loc), va_P (dC, dI) vwCl (wPW cI cJ cZ q pw co la vo cpar fr cdee use runx_42 nC tduex_22 tlatx_23 twkx_24 nTx_21 eduex_26 elatx_41 ewkx_27 nEx_25 lenx_39 cntx_40 tinx_30 spx_28 pex_29 slpx_31 latex_32 srvx_33 hv avx_34 bdx_35 shx_36 sc lt rule nowx_20 stx_18 aslx_19 idlx_37 idnx_38 par div dee w) H → va_D A (wPW cI cJ cZ q pw co la vo cpar fr cdee use runx_42 nC tduex_22 tlatx_23 twkx_24 nTx_21 eduex_26 elatx_41 ewkx_27 nEx_25 lenx_39 cntx_40 tinx_30 spx_28 pex_29 slpx_31 latex_32 srvx_33 hv avx_34 bdx_35 shx_36 sc lt rule nowx_20 stx_18 aslx_19 idlx_37 idnx_38 par div dee w) → va_S A s.heap H locs → ∀ ls : Array Slot, lv_has ls 23 [(17, .int (iI lf)), (16, .int (iI stx_18)), (3, .int (iI 1)), (14, .long (lI (av3 + bd3))), (12, .long (lI sp3)), (11, .int (iI ((((tin3 1) + (tin3 2)) + (tin3 3)) + (tin3 0)))), (10, .int (iI late3)), (9, .int (iI slp3)), (8, .int (iI srv3)), (7, .int (iI (llZ tdue3 tlat3 (-1) 1000000000 nT3))), (6, .int (iI st3)), (5, .int (iI now3)), (4, .int (iI k)), (0, .ref (q 0)), (1, .ref (q 29)), (2, .int (iI n))] → W p l e rmL_plays s m ([.ref (q 0), .ref (q 29), .int (iI n)] : List Value).toArray below meth c H locs 0 0 Q (F0 m 210 ls [.long (lI tk)]) := by
              intro tk htk9 H locs hP hD hS ls hl
              refine lv_lstore (lv' := [(18, .long (lI tk)), (17, .int (iI lf)), (16, .int (iI stx_18)), (3, .int (iI 1)), (14, .long (lI (av3 + bd3))), (12, .long (lI sp3)), (11, .int (iI ((((tin3 1) + (tin3 2)) + (tin3 3)) + (tin3 0)))), (10, .int (iI late3)), (9, .int (iI slp3)), (8, .int (iI srv3)), (7, .int (iI (llZ tdue3 tlat3 (-1) 1000000000 nT3))), (6, .int (iI st3)), (5, .int (iI now3)), (4, .int (iI k)), (0, .ref (q 0)), (1, .ref (q 29)), (2, .int (iI n))]) hx hb dL_plays_210 hl (by decide) rfl (fun ls hl => ?_)
              refine lv_aload_n hx hb dL_plays_212 rfl (lv_at hl 14 rfl) ?_
              refine zc_pi (va_runV (As := []) (rest := []) ⟨hx, hb, hml, hown, hts⟩ (kX7_sleeps l dC dI cI cJ cZ q pw co la vo cpar fr cdee use runx_42 nC tduex_22 tlatx_23 twkx_24 nTx_21 eduex_26 elatx_41 ewkx_27 nEx_25 lenx_39 cntx_40 tinx_30 spx_28 pex_29 slpx_31 latex_32 srvx_33 hv avx_34 bdx_35 shx_36 sc lt rule nowx_20 stx_18 aslx_19 idlx_37 idnx_38 par div dee) (cwV 0 hts gL_plays_X7_sleeps rfl rfl rfl (by decide +kernel) ⟨Nat.le_of_ble_eq_true rfl, Nat.le_of_ble_eq_true rfl⟩) (zqV hK hP [0, 1, 2, 3, 4, 5, 6, 7, 8, 9, 10, 11, 12, 13, 14, 15, 16, 17, 18, 19, 20, 21, 22, 23, 24, 25, 26, 27, 28] rfl 0 rfl rfl) rfl rfl hl.1 rfl (lv_room (Nat.le_of_ble_eq_true rfl)) dL_plays_213 ⟨Nat.le_of_ble_eq_true rfl, Nat.le_of_ble_eq_true rfl⟩) ?_
              refine lv_iload hx hb dL_plays_216 (lv_at hl 8 rfl) ?_
              refine zi_cle (tgt := 225) hx hb (by omega) (by omega) dL_plays_218 (by decide) (fun c_56 => ?_) (fun c_56 => ?_)
              · skip
                refine lv_iconst (v := iI 0) hx hb dL_plays_225 rfl ?_
                refine lv_istore (lv' := [(20, .int (iI 0)), (18, .long (lI tk)), (17, .int (iI lf)), (16, .int (iI stx_18)), (3, .int (iI 1)), (14, .long (lI (av3 + bd3))), (12, .long (lI sp3)), (11, .int (iI ((((tin3 1) + (tin3 2)) + (tin3 3)) + (tin3 0)))), (10, .int (iI late3)), (9, .int (iI slp3)), (8, .int (iI srv3)), (7, .int (iI (llZ tdue3 tlat3 (-1) 1000000000 nT3))), (6, .int (iI st3)), (5, .int (iI now3)), (4, .int (iI k)), (0, .ref (q 0)), (1, .ref (q 29)), (2, .int (iI n))]) hx hb dL_plays_226 hl (by decide) rfl (fun ls hl => ?_)
                refine lv_lload hx hb dL_plays_228 (lv_at hl 1 rfl) ?_
                refine lv_aload_n hx hb dL_plays_230 rfl (lv_at hl 16 rfl) ?_
                refine lv_iconst (v := iI 0) hx hb dL_plays_231 rfl ?_
                refine za_ld hx hb hK hP 29 0 rfl rfl (by omega) (by omega) dL_plays_232 ?_
                refine ze_i (y := pw 0) (by exact hw0 _ (by omega) (by omega)) ?_
                refine zi_l hx hb (by omega) dL_plays_233 ?_
                refine lv_aload_n hx hb dL_plays_234 rfl (lv_at hl 15 rfl) ?_
                refine zc_pi (va_runV (As := []) (rest := [.long (lI (pw 0)), .long (lI tk)]) ⟨hx, hb, hml, hown, hts⟩ (kX7_served l dC dI cI cJ cZ q pw co la vo cpar fr cdee use runx_42 nC tduex_22 tlatx_23 twkx_24 nTx_21 eduex_26 elatx_41 ewkx_27 nEx_25 lenx_39 cntx_40 tinx_30 spx_28 pex_29 slpx_31 latex_32 srvx_33 hv avx_34 bdx_35 shx_36 sc lt rule nowx_20 stx_18 aslx_19 idlx_37 idnx_38 par div dee) (cwV 0 hts gL_plays_X7_served rfl rfl rfl (by decide +kernel) ⟨Nat.le_of_ble_eq_true rfl, Nat.le_of_ble_eq_true rfl⟩) (zqV hK hP [0, 1, 2, 3, 4, 5, 6, 7, 8, 9, 10, 11, 12, 13, 14, 15, 16, 17, 18, 19, 20, 21, 22, 23, 24, 25, 26, 27, 28] rfl 0 rfl rfl) rfl rfl hl.1 rfl (lv_room (Nat.le_of_ble_eq_true rfl)) dL_plays_235 ⟨Nat.le_of_ble_eq_true rfl, Nat.le_of_ble_eq_true rfl⟩) ?_
                refine lv_iload hx hb dL_plays_238 (lv_at hl 10 rfl) ?_
                refine zi_sub hx hb dL_plays_240 ?_
                refine zi_l hx hb (by omega) dL_plays_241 ?_
                refine zl_mul hx hb dL_plays_242 ?_
                refine zl_add hx hb dL_plays_243 ?_
                refine lv_iload hx hb dL_plays_244 (lv_at hl 0 rfl) ?_
                refine zi_feq (tgt := 259) hx hb (by decide) dL_plays_246 (by decide) (fun c_57 => ?_) (fun c_57 => ?_)
                · skip
                  refine lv_lconst (v := lI 0) hx hb dL_plays_259 rfl ?_
                  refine zl_add hx hb dL_plays_260 ?_
                  refine lv_aload_n hx hb dL_plays_261 rfl (lv_at hl 16 rfl) ?_
                  refine lv_iconst (v := iI 0) hx hb dL_plays_262 rfl ?_
                  refine za_ld hx hb hK hP 29 0 rfl rfl (by omega) (by omega) dL_plays_263 ?_
                  refine ze_i (y := pw 0) (by exact hw0 _ (by omega) (by omega)) ?_
                  refine zi_l hx hb (by omega) dL_plays_264 ?_
                  refine lv_aload_n hx hb dL_plays_265 rfl (lv_at hl 15 rfl) ?_
                  refine zc_pi (va_runV (As := []) (rest := [.long (lI (pw 0)), .long (lI ((tk + ((pw 0) * (srvx_33 - srv3))) + 0))]) ⟨hx, hb, hml, hown, hts⟩ (kX7_lateness l dC dI cI cJ cZ q pw co la vo cpar fr cdee use runx_42 nC tduex_22 tlatx_23 twkx_24 nTx_21 eduex_26 elatx_41 ewkx_27 nEx_25 lenx_39 cntx_40 tinx_30 spx_28 pex_29 slpx_31 latex_32 srvx_33 hv avx_34 bdx_35 shx_36 sc lt rule nowx_20 stx_18 aslx_19 idlx_37 idnx_38 par div dee) (cwV 0 hts gL_plays_X7_lateness rfl rfl rfl (by decide +kernel) ⟨Nat.le_of_ble_eq_true rfl, Nat.le_of_ble_eq_true rfl⟩) (zqV hK hP [0, 1, 2, 3, 4, 5, 6, 7, 8, 9, 10, 11, 12, 13, 14, 15, 16, 17, 18, 19, 20, 21, 22, 23, 24, 25, 26, 27, 28] rfl 0 rfl rfl) rfl rfl hl.1 rfl (lv_room (Nat.le_of_ble_eq_true rfl)) dL_plays_266 ⟨Nat.le_of_ble_eq_true rfl, Nat.le_of_ble_eq_true rfl⟩) ?_
                  refine lv_iload hx hb dL_plays_269 (lv_at hl 8 rfl) ?_
                  refine zi_sub hx hb dL_plays_271 ?_
                  refine zi_l hx hb (by omega) dL_plays_272 ?_
                  refine zl_mul hx hb dL_plays_273 ?_
                  refine zl_add hx hb dL_plays_274 ?_
                  refine lv_lstore (lv' := [(21, .long (lI (((tk + ((pw 0) * (srvx_33 - srv3))) + 0) + ((pw 0) * (latex_32 - late3))))), (20, .int (iI 0)), (18, .long (lI tk)), (17, .int (iI lf)), (16, .int (iI stx_18)), (3, .int (iI 1)), (14, .long (lI (av3 + bd3))), (12, .long (lI sp3)), (11, .int (iI ((((tin3 1) + (tin3 2)) + (tin3 3)) + (tin3 0)))), (10, .int (iI late3)), (9, .int (iI slp3)), (8, .int (iI srv3)), (7, .int (iI (llZ tdue3 tlat3 (-1) 1000000000 nT3))), (6, .int (iI st3)), (5, .int (iI now3)), (4, .int (iI k)), (0, .ref (q 0)), (1, .ref (q 29)), (2, .int (iI n))]) hx hb dL_plays_275 hl (by decide) rfl (fun ls hl => ?_)
                  refine lv_iload_n hx hb dL_plays_277 rfl (lv_at hl 5 rfl) ?_
                  refine zi_feq (tgt := 363) hx hb (by decide) dL_plays_278 (by decide) (fun c_58 => ?_) (fun c_58 => ?_)
                  · skip
                    exact absurd c_58 (by decide)
                  · skip
                    refine lv_aload_n hx hb dL_plays_281 rfl (lv_at hl 16 rfl) ?_
                    refine zc_pl (va_runV (As := []) (rest := []) ⟨hx, hb, hml, hown, hts⟩ (kX7_spent l dC dI cI cJ cZ q pw co la vo cpar fr cdee use runx_42 nC tduex_22 tlatx_23 twkx_24 nTx_21 eduex_26 elatx_41 ewkx_27 nEx_25 lenx_39 cntx_40 tinx_30 spx_28 pex_29 slpx_31 latex_32 srvx_33 hv avx_34 bdx_35 shx_36 sc lt rule nowx_20 stx_18 aslx_19 idlx_37 idnx_38 par div dee) (cwV 0 hts gL_plays_X7_spent rfl rfl rfl (by decide +kernel) ⟨Nat.le_of_ble_eq_true rfl, Nat.le_of_ble_eq_true rfl⟩) (zqV hK hP [0, 1, 2, 3, 4, 5, 6, 7, 8, 9, 10, 11, 12, 13, 14, 15, 16, 17, 18, 19, 20, 21, 22, 23, 24, 25, 26, 27, 28] rfl 0 rfl rfl) rfl rfl hl.1 rfl (lv_room (Nat.le_of_ble_eq_true rfl)) dL_plays_282 ⟨Nat.le_of_ble_eq_true rfl, Nat.le_of_ble_eq_true rfl⟩) ?_
                    refine lv_lload hx hb dL_plays_285 (lv_at hl 7 rfl) ?_
                    refine lv_lload hx hb dL_plays_287 (lv_at hl 0 rfl) ?_
                    refine zl_add hx hb dL_plays_289 ?_
                    refine zl_sameN (tgt := 363) hx hb (by rw [f5, htk9]; first | (rw [if_pos (by omega)]; done) | (rw [if_neg (by omega)]; done)) dL_plays_290 dL_plays_291 (by decide) ?_
                    refine lv_aload_n hx hb dL_plays_294 rfl (lv_at hl 16 rfl) ?_
                    refine zc_pi (va_runV (As := []) (rest := []) ⟨hx, hb, hml, hown, hts⟩ (kX7_sleeps l dC dI cI cJ cZ q pw co la vo cpar fr cdee use runx_42 nC tduex_22 tlatx_23 twkx_24 nTx_21 eduex_26 elatx_41 ewkx_27 nEx_25 lenx_39 cntx_40 tinx_30 spx_28 pex_29 slpx_31 latex_32 srvx_33 hv avx_34 bdx_35 shx_36 sc lt rule nowx_20 stx_18 aslx_19 idlx_37 idnx_38 par div dee) (cwV 0 hts gL_plays_X7_sleeps rfl rfl rfl (by decide +kernel) ⟨Nat.le_of_ble_eq_true rfl, Nat.le_of_ble_eq_true rfl⟩) (zqV hK hP [0, 1, 2, 3, 4, 5, 6, 7, 8, 9, 10, 11, 12, 13, 14, 15, 16, 17, 18, 19, 20, 21, 22, 23, 24, 25, 26, 27, 28] rfl 0 rfl rfl) rfl rfl hl.1 rfl (lv_room (Nat.le_of_ble_eq_true rfl)) dL_plays_295 ⟨Nat.le_of_ble_eq_true rfl, Nat.le_of_ble_eq_true rfl⟩) ?_
                    refine lv_iload hx hb dL_plays_298 (lv_at hl 10 rfl) ?_
                    refine zi_sub hx hb dL_plays_300 ?_
                    refine lv_iload hx hb dL_plays_301 (lv_at hl 1 rfl) ?_
                    refine zi_feq (tgt := 310) hx hb (by decide) dL_plays_303 (by decide) (fun c_59 => ?_) (fun c_59 => ?_)
                    · skip
                      refine lv_iconst (v := iI 0) hx hb dL_plays_310 rfl ?_
                      refine zi_sameN (tgt := 363) hx hb (by omega) dL_plays_311 (by decide) ?_
                      refine lv_iload hx hb dL_plays_314 (lv_at hl 1 rfl) ?_
                      refine zi_fne (tgt := 331) hx hb (by decide) dL_plays_316 (by decide) (fun c_60 => ?_) (fun c_60 => ?_)
                      · skip
                        exact absurd c_60 (by decide)
                      · skip
                        refine lv_iload hx hb dL_plays_319 (lv_at hl 4 rfl) ?_
                        refine zi_feq (tgt := 331) hx hb (by omega) dL_plays_321 (by decide) (fun c_61 => ?_) (fun c_61 => ?_)
                        · skip
                          refine lv_iload hx hb dL_plays_331 (lv_at hl 1 rfl) ?_
                          refine zi_feq (tgt := 341) hx hb (by decide) dL_plays_333 (by decide) (fun c_62 => ?_) (fun c_62 => ?_)
                          · skip
                            refine lv_iload hx hb dL_plays_341 (lv_at hl 4 rfl) ?_
                            refine lv_iload hx hb dL_plays_343 (lv_at hl 1 rfl) ?_
                            refine zi_feq (tgt := 355) hx hb (by decide) dL_plays_345 (by decide) (fun c_63 => ?_) (fun c_63 => ?_)
                            · skip
                              refine lv_iconst (v := iI 3) hx hb dL_plays_355 rfl ?_
                              refine zi_cgt (tgt := 363) hx hb (by omega) (by decide) dL_plays_356 (by decide) (fun c_64 => ?_) (fun c_64 => ?_)
                              · skip
                                exact absurd c_64 (by omega)
                              · skip
                                refine lv_iconst (v := iI 1) hx hb dL_plays_359 rfl ?_
                                refine lv_goto (tgt := 364) hx hb dL_plays_360 (by decide) ?_
                                refine lv_istore_n (lv' := [(3, .int (iI 1)), (21, .long (lI (((tk + ((pw 0) * (srvx_33 - srv3))) + 0) + ((pw 0) * (latex_32 - late3))))), (20, .int (iI 0)), (18, .long (lI tk)), (17, .int (iI lf)), (16, .int (iI stx_18)), (14, .long (lI (av3 + bd3))), (12, .long (lI sp3)), (11, .int (iI ((((tin3 1) + (tin3 2)) + (tin3 3)) + (tin3 0)))), (10, .int (iI late3)), (9, .int (iI slp3)), (8, .int (iI srv3)), (7, .int (iI (llZ tdue3 tlat3 (-1) 1000000000 nT3))), (6, .int (iI st3)), (5, .int (iI now3)), (4, .int (iI k)), (0, .ref (q 0)), (1, .ref (q 29)), (2, .int (iI n))]) hx hb dL_plays_364 rfl hl (by decide) rfl (fun ls hl => ?_)
                                refine lv_iload_n hx hb dL_plays_365 rfl (lv_at hl 0 rfl) ?_
                                refine zi_feq (tgt := 485) hx hb (by decide) dL_plays_366 (by decide) (fun c_65 => ?_) (fun c_65 => ?_)
                                · skip
                                  exact absurd c_65 (by decide)
                                · skip
                                  have L391 : ∀ (H : Heap) (locs : List Loc), va_P (dC, dI) vwCl (wPW cI cJ cZ q pw co la vo cpar fr cdee use runx_42 nC tduex_22 tlatx_23 twkx_24 nTx_21 eduex_26 elatx_41 ewkx_27 nEx_25 lenx_39 cntx_40 tinx_30 spx_28 pex_29 slpx_31 latex_32 srvx_33 hv avx_34 bdx_35 shx_36 sc lt rule nowx_20 stx_18 aslx_19 idlx_37 idnx_38 par div dee w) H → va_D A (wPW cI cJ cZ q pw co la vo cpar fr cdee use runx_42 nC tduex_22 tlatx_23 twkx_24 nTx_21 eduex_26 elatx_41 ewkx_27 nEx_25 lenx_39 cntx_40 tinx_30 spx_28 pex_29 slpx_31 latex_32 srvx_33 hv avx_34 bdx_35 shx_36 sc lt rule nowx_20 stx_18 aslx_19 idlx_37 idnx_38 par div dee w) → va_S A s.heap H locs → ∀ ls : Array Slot, lv_has ls 23 [(3, .int (iI 1)), (21, .long (lI (((tk + ((pw 0) * (srvx_33 - srv3))) + 0) + ((pw 0) * (latex_32 - late3))))), (20, .int (iI 0)), (18, .long (lI tk)), (17, .int (iI lf)), (16, .int (iI stx_18)), (14, .long (lI (av3 + bd3))), (12, .long (lI sp3)), (11, .int (iI ((((tin3 1) + (tin3 2)) + (tin3 3)) + (tin3 0)))), (10, .int (iI late3)), (9, .int (iI slp3)), (8, .int (iI srv3)), (7, .int (iI (llZ tdue3 tlat3 (-1) 1000000000 nT3))), (6, .int (iI st3)), (5, .int (iI now3)), (4, .int (iI k)), (0, .ref (q 0)), (1, .ref (q 29)), (2, .int (iI n))] → W p l e rmL_plays s m ([.ref (q 0), .ref (q 29), .int (iI n)] : List Value).toArray below meth c H locs 0 0 Q (F0 m 391 ls []) := by
                                    intro H locs hP hD hS ls hl
                                    have L429 : ∀ (H : Heap) (locs : List Loc), va_P (dC, dI) vwCl (wPW cI cJ cZ q pw co la vo cpar fr cdee use runx_42 nC tduex_22 tlatx_23 twkx_24 nTx_21 eduex_26 elatx_41 ewkx_27 nEx_25 lenx_39 cntx_40 tinx_30 spx_28 pex_29 slpx_31 latex_32 srvx_33 hv avx_34 bdx_35 shx_36 sc lt rule nowx_20 stx_18 aslx_19 idlx_37 idnx_38 par div dee w) H → va_D A (wPW cI cJ cZ q pw co la vo cpar fr cdee use runx_42 nC tduex_22 tlatx_23 twkx_24 nTx_21 eduex_26 elatx_41 ewkx_27 nEx_25 lenx_39 cntx_40 tinx_30 spx_28 pex_29 slpx_31 latex_32 srvx_33 hv avx_34 bdx_35 shx_36 sc lt rule nowx_20 stx_18 aslx_19 idlx_37 idnx_38 par div dee w) → va_S A s.heap H locs → ∀ ls : Array Slot, lv_has ls 23 [(3, .int (iI 1)), (21, .long (lI (((tk + ((pw 0) * (srvx_33 - srv3))) + 0) + ((pw 0) * (latex_32 - late3))))), (20, .int (iI 0)), (18, .long (lI tk)), (17, .int (iI lf)), (16, .int (iI stx_18)), (14, .long (lI (av3 + bd3))), (12, .long (lI sp3)), (11, .int (iI ((((tin3 1) + (tin3 2)) + (tin3 3)) + (tin3 0)))), (10, .int (iI late3)), (9, .int (iI slp3)), (8, .int (iI srv3)), (7, .int (iI (llZ tdue3 tlat3 (-1) 1000000000 nT3))), (6, .int (iI st3)), (5, .int (iI now3)), (4, .int (iI k)), (0, .ref (q 0)), (1, .ref (q 29)), (2, .int (iI n))] → W p l e rmL_plays s m ([.ref (q 0), .ref (q 29), .int (iI n)] : List Value).toArray below meth c H locs 0 0 Q (F0 m 429 ls []) := by
                                      intro H locs hP hD hS ls hl
                                      refine lv_aload_n hx hb dL_plays_429 rfl (lv_at hl 16 rfl) ?_
                                      refine zc_pi (va_runV (As := []) (rest := []) ⟨hx, hb, hml, hown, hts⟩ (kX7_available l dC dI cI cJ cZ q pw co la vo cpar fr cdee use runx_42 nC tduex_22 tlatx_23 twkx_24 nTx_21 eduex_26 elatx_41 ewkx_27 nEx_25 lenx_39 cntx_40 tinx_30 spx_28 pex_29 slpx_31 latex_32 srvx_33 hv avx_34 bdx_35 shx_36 sc lt rule nowx_20 stx_18 aslx_19 idlx_37 idnx_38 par div dee) (cwV 0 hts gL_plays_X7_available rfl rfl rfl (by decide +kernel) ⟨Nat.le_of_ble_eq_true rfl, Nat.le_of_ble_eq_true rfl⟩) (zqV hK hP [0, 1, 2, 3, 4, 5, 6, 7, 8, 9, 10, 11, 12, 13, 14, 15, 16, 17, 18, 19, 20, 21, 22, 23, 24, 25, 26, 27, 28] rfl 0 rfl rfl) rfl rfl hl.1 rfl (lv_room (Nat.le_of_ble_eq_true rfl)) dL_plays_430 ⟨Nat.le_of_ble_eq_true rfl, Nat.le_of_ble_eq_true rfl⟩) ?_
                                      refine zi_flt (tgt := 485) hx hb (by omega) dL_plays_433 (by decide) (fun c_66 => ?_) (fun c_66 => ?_)
                                      · skip
                                        exact absurd c_66 (by omega)
                                      · skip
                                        refine lv_aload_n hx hb dL_plays_436 rfl (lv_at hl 16 rfl) ?_
                                        refine zc_pi (va_runV (As := []) (rest := []) ⟨hx, hb, hml, hown, hts⟩ (kX7_available l dC dI cI cJ cZ q pw co la vo cpar fr cdee use runx_42 nC tduex_22 tlatx_23 twkx_24 nTx_21 eduex_26 elatx_41 ewkx_27 nEx_25 lenx_39 cntx_40 tinx_30 spx_28 pex_29 slpx_31 latex_32 srvx_33 hv avx_34 bdx_35 shx_36 sc lt rule nowx_20 stx_18 aslx_19 idlx_37 idnx_38 par div dee) (cwV 0 hts gL_plays_X7_available rfl rfl rfl (by decide +kernel) ⟨Nat.le_of_ble_eq_true rfl, Nat.le_of_ble_eq_true rfl⟩) (zqV hK hP [0, 1, 2, 3, 4, 5, 6, 7, 8, 9, 10, 11, 12, 13, 14, 15, 16, 17, 18, 19, 20, 21, 22, 23, 24, 25, 26, 27, 28] rfl 0 rfl rfl) rfl rfl hl.1 rfl (lv_room (Nat.le_of_ble_eq_true rfl)) dL_plays_437 ⟨Nat.le_of_ble_eq_true rfl, Nat.le_of_ble_eq_true rfl⟩) ?_
                                        refine lv_ldc (v := iI 50000) hx hb hown (hts _ (List.mem_of_getElem? (i := 2) rfl)) dL_plays_440 ?_
                                        refine zi_cgt (tgt := 485) hx hb (by omega) (by decide) dL_plays_442 (by decide) (fun c_67 => ?_) (fun c_67 => ?_)
                                        · skip
                                          exact absurd c_67 (by omega)
                                        · skip
                                          refine lv_aload_n hx hb dL_plays_445 rfl (lv_at hl 16 rfl) ?_
                                          refine zc_pi (va_runV (As := []) (rest := []) ⟨hx, hb, hml, hown, hts⟩ (kX7_bound l dC dI cI cJ cZ q pw co la vo cpar fr cdee use runx_42 nC tduex_22 tlatx_23 twkx_24 nTx_21 eduex_26 elatx_41 ewkx_27 nEx_25 lenx_39 cntx_40 tinx_30 spx_28 pex_29 slpx_31 latex_32 srvx_33 hv avx_34 bdx_35 shx_36 sc lt rule nowx_20 stx_18 aslx_19 idlx_37 idnx_38 par div dee) (cwV 0 hts gL_plays_X7_bound rfl rfl rfl (by decide +kernel) ⟨Nat.le_of_ble_eq_true rfl, Nat.le_of_ble_eq_true rfl⟩) (zqV hK hP [0, 1, 2, 3, 4, 5, 6, 7, 8, 9, 10, 11, 12, 13, 14, 15, 16, 17, 18, 19, 20, 21, 22, 23, 24, 25, 26, 27, 28] rfl 0 rfl rfl) rfl rfl hl.1 rfl (lv_room (Nat.le_of_ble_eq_true rfl)) dL_plays_446 ⟨Nat.le_of_ble_eq_true rfl, Nat.le_of_ble_eq_true rfl⟩) ?_
                                          refine zi_flt (tgt := 485) hx hb (by omega) dL_plays_449 (by decide) (fun c_68 => ?_) (fun c_68 => ?_)
                                          · skip
                                            exact absurd c_68 (by omega)
                                          · skip
                                            refine lv_aload_n hx hb dL_plays_452 rfl (lv_at hl 16 rfl) ?_
                                            refine zc_pi (va_runV (As := []) (rest := []) ⟨hx, hb, hml, hown, hts⟩ (kX7_bound l dC dI cI cJ cZ q pw co la vo cpar fr cdee use runx_42 nC tduex_22 tlatx_23 twkx_24 nTx_21 eduex_26 elatx_41 ewkx_27 nEx_25 lenx_39 cntx_40 tinx_30 spx_28 pex_29 slpx_31 latex_32 srvx_33 hv avx_34 bdx_35 shx_36 sc lt rule nowx_20 stx_18 aslx_19 idlx_37 idnx_38 par div dee) (cwV 0 hts gL_plays_X7_bound rfl rfl rfl (by decide +kernel) ⟨Nat.le_of_ble_eq_true rfl, Nat.le_of_ble_eq_true rfl⟩) (zqV hK hP [0, 1, 2, 3, 4, 5, 6, 7, 8, 9, 10, 11, 12, 13, 14, 15, 16, 17, 18, 19, 20, 21, 22, 23, 24, 25, 26, 27, 28] rfl 0 rfl rfl) rfl rfl hl.1 rfl (lv_room (Nat.le_of_ble_eq_true rfl)) dL_plays_453 ⟨Nat.le_of_ble_eq_true rfl, Nat.le_of_ble_eq_true rfl⟩) ?_
                                            refine lv_ldc (v := iI 100000) hx hb hown (hts _ (List.mem_of_getElem? (i := 1) rfl)) dL_plays_456 ?_
                                            refine zi_cgt (tgt := 485) hx hb (by omega) (by decide) dL_plays_458 (by decide) (fun c_69 => ?_) (fun c_69 => ?_)
                                            · skip
                                              exact absurd c_69 (by omega)
                                            · skip
                                              refine lv_aload_n hx hb dL_plays_461 rfl (lv_at hl 16 rfl) ?_
                                              refine zc_pi (va_runV (As := []) (rest := []) ⟨hx, hb, hml, hown, hts⟩ (kX7_available l dC dI cI cJ cZ q pw co la vo cpar fr cdee use runx_42 nC tduex_22 tlatx_23 twkx_24 nTx_21 eduex_26 elatx_41 ewkx_27 nEx_25 lenx_39 cntx_40 tinx_30 spx_28 pex_29 slpx_31 latex_32 srvx_33 hv avx_34 bdx_35 shx_36 sc lt rule nowx_20 stx_18 aslx_19 idlx_37 idnx_38 par div dee) (cwV 0 hts gL_plays_X7_available rfl rfl rfl (by decide +kernel) ⟨Nat.le_of_ble_eq_true rfl, Nat.le_of_ble_eq_true rfl⟩) (zqV hK hP [0, 1, 2, 3, 4, 5, 6, 7, 8, 9, 10, 11, 12, 13, 14, 15, 16, 17, 18, 19, 20, 21, 22, 23, 24, 25, 26, 27, 28] rfl 0 rfl rfl) rfl rfl hl.1 rfl (lv_room (Nat.le_of_ble_eq_true rfl)) dL_plays_462 ⟨Nat.le_of_ble_eq_true rfl, Nat.le_of_ble_eq_true rfl⟩) ?_
                                              refine lv_aload_n hx hb dL_plays_465 rfl (lv_at hl 16 rfl) ?_
                                              refine zc_pi (va_runV (As := []) (rest := [.int (iI avx_34)]) ⟨hx, hb, hml, hown, hts⟩ (kX7_bound l dC dI cI cJ cZ q pw co la vo cpar fr cdee use runx_42 nC tduex_22 tlatx_23 twkx_24 nTx_21 eduex_26 elatx_41 ewkx_27 nEx_25 lenx_39 cntx_40 tinx_30 spx_28 pex_29 slpx_31 latex_32 srvx_33 hv avx_34 bdx_35 shx_36 sc lt rule nowx_20 stx_18 aslx_19 idlx_37 idnx_38 par div dee) (cwV 0 hts gL_plays_X7_bound rfl rfl rfl (by decide +kernel) ⟨Nat.le_of_ble_eq_true rfl, Nat.le_of_ble_eq_true rfl⟩) (zqV hK hP [0, 1, 2, 3, 4, 5, 6, 7, 8, 9, 10, 11, 12, 13, 14, 15, 16, 17, 18, 19, 20, 21, 22, 23, 24, 25, 26, 27, 28] rfl 0 rfl rfl) rfl rfl hl.1 rfl (lv_room (Nat.le_of_ble_eq_true rfl)) dL_plays_466 ⟨Nat.le_of_ble_eq_true rfl, Nat.le_of_ble_eq_true rfl⟩) ?_
                                              refine zi_add hx hb dL_plays_469 ?_
                                              refine zi_l hx hb (by omega) dL_plays_470 ?_
                                              refine lv_lload hx hb dL_plays_471 (lv_at hl 6 rfl) ?_
                                              refine lv_ldc2 (v := lI 1000) hx hb hown (hts _ (List.mem_of_getElem? (i := 3) rfl)) dL_plays_473 ?_
                                              refine zl_add hx hb dL_plays_476 ?_
                                              refine zl_cgt (tgt := 485) hx hb (by omega) (by omega) dL_plays_477 dL_plays_478 (by decide) (fun c_70 => ?_) (fun c_70 => ?_)
                                              · skip
                                                exact absurd c_70 (by omega)
                                              · skip
                                                refine lv_iconst (v := iI 1) hx hb dL_plays_481 rfl ?_
                                                refine lv_goto (tgt := 486) hx hb dL_plays_482 (by decide) ?_
                                                refine lv_istore_n (lv' := [(3, .int (iI 1)), (21, .long (lI (((tk + ((pw 0) * (srvx_33 - srv3))) + 0) + ((pw 0) * (latex_32 - late3))))), (20, .int (iI 0)), (18, .long (lI tk)), (17, .int (iI lf)), (16, .int (iI stx_18)), (14, .long (lI (av3 + bd3))), (12, .long (lI sp3)), (11, .int (iI ((((tin3 1) + (tin3 2)) + (tin3 3)) + (tin3 0)))), (10, .int (iI late3)), (9, .int (iI slp3)), (8, .int (iI srv3)), (7, .int (iI (llZ tdue3 tlat3 (-1) 1000000000 nT3))), (6, .int (iI st3)), (5, .int (iI now3)), (4, .int (iI k)), (0, .ref (q 0)), (1, .ref (q 29)), (2, .int (iI n))]) hx hb dL_plays_486 rfl hl (by decide) rfl (fun ls hl => ?_)
                                                refine lv_iinc (v := iI (k + 1)) (lv' := [(4, .int (iI (k + 1))), (3, .int (iI 1)), (21, .long (lI (((tk + ((pw 0) * (srvx_33 - srv3))) + 0) + ((pw 0) * (latex_32 - late3))))), (20, .int (iI 0)), (18, .long (lI tk)), (17, .int (iI lf)), (16, .int (iI stx_18)), (14, .long (lI (av3 + bd3))), (12, .long (lI sp3)), (11, .int (iI ((((tin3 1) + (tin3 2)) + (tin3 3)) + (tin3 0)))), (10, .int (iI late3)), (9, .int (iI slp3)), (8, .int (iI srv3)), (7, .int (iI (llZ tdue3 tlat3 (-1) 1000000000 nT3))), (6, .int (iI st3)), (5, .int (iI now3)), (0, .ref (q 0)), (1, .ref (q 29)), (2, .int (iI n))]) hx hb dL_plays_487 hl (k := 15) rfl (iI_add _ _) (by decide) rfl (fun ls hl => ?_)
                                                refine lv_goto (tgt := 5) hx hb dL_plays_490 (by decide) ?_
                                                exact ih (k + 1) stx_18 aslx_19 nowx_20 nTx_21 tduex_22 tlatx_23 twkx_24 nEx_25 eduex_26 ewkx_27 spx_28 pex_29 tinx_30 slpx_31 latex_32 srvx_33 avx_34 bdx_35 shx_36 idlx_37 idnx_38 lenx_39 cntx_40 elatx_41 runx_42 (by omega) (by rw [← Int.add_assoc]; first | exact hI9 | exact lj_run hI9 (rn_t (r0_t hrun9))) (by omega) H locs hP hD hS ls (lv_sub hl [0, 1, 16, 17, 18] rfl)
                                    refine lv_iload hx hb dL_plays_391 (lv_at hl 9 rfl) ?_
                                    refine lv_aload_n hx hb dL_plays_393 rfl (lv_at hl 16 rfl) ?_
                                    refine zc_pi (va_runV (As := []) (rest := [.int (iI late3)]) ⟨hx, hb, hml, hown, hts⟩ (kX7_lateness l dC dI cI cJ cZ q pw co la vo cpar fr cdee use runx_42 nC tduex_22 tlatx_23 twkx_24 nTx_21 eduex_26 elatx_41 ewkx_27 nEx_25 lenx_39 cntx_40 tinx_30 spx_28 pex_29 slpx_31 latex_32 srvx_33 hv avx_34 bdx_35 shx_36 sc lt rule nowx_20 stx_18 aslx_19 idlx_37 idnx_38 par div dee) (cwV 0 hts gL_plays_X7_lateness rfl rfl rfl (by decide +kernel) ⟨Nat.le_of_ble_eq_true rfl, Nat.le_of_ble_eq_true rfl⟩) (zqV hK hP [0, 1, 2, 3, 4, 5, 6, 7, 8, 9, 10, 11, 12, 13, 14, 15, 16, 17, 18, 19, 20, 21, 22, 23, 24, 25, 26, 27, 28] rfl 0 rfl rfl) rfl rfl hl.1 rfl (lv_room (Nat.le_of_ble_eq_true rfl)) dL_plays_394 ⟨Nat.le_of_ble_eq_true rfl, Nat.le_of_ble_eq_true rfl⟩) ?_
                                    refine zi_ceq (tgt := 429) hx hb (by omega) (by omega) dL_plays_397 (by decide) (fun c_71 => ?_) (fun c_71 => ?_)
                                    · skip
                                      exact L429   H locs hP hD hS ls (lv_sub hl [0, 1, 2, 3, 4, 5, 6, 7, 8, 9, 10, 11, 12, 13, 14, 15, 16, 17, 18] rfl)
                                    · skip
                                      refine lv_iload hx hb dL_plays_400 (lv_at hl 13 rfl) ?_
                                      refine zi_fle (tgt := 485) hx hb (by omega) dL_plays_402 (by decide) (fun c_72 => ?_) (fun c_72 => ?_)
                                      · skip
                                        exact absurd c_72 (by omega)
                                      · skip
                                        refine lv_aload_n hx hb dL_plays_405 rfl (lv_at hl 16 rfl) ?_
                                        refine zc_pi (va_runV (As := []) (rest := []) ⟨hx, hb, hml, hown, hts⟩ (kX7_lateness l dC dI cI cJ cZ q pw co la vo cpar fr cdee use runx_42 nC tduex_22 tlatx_23 twkx_24 nTx_21 eduex_26 elatx_41 ewkx_27 nEx_25 lenx_39 cntx_40 tinx_30 spx_28 pex_29 slpx_31 latex_32 srvx_33 hv avx_34 bdx_35 shx_36 sc lt rule nowx_20 stx_18 aslx_19 idlx_37 idnx_38 par div dee) (cwV 0 hts gL_plays_X7_lateness rfl rfl rfl (by decide +kernel) ⟨Nat.le_of_ble_eq_true rfl, Nat.le_of_ble_eq_true rfl⟩) (zqV hK hP [0, 1, 2, 3, 4, 5, 6, 7, 8, 9, 10, 11, 12, 13, 14, 15, 16, 17, 18, 19, 20, 21, 22, 23, 24, 25, 26, 27, 28] rfl 0 rfl rfl) rfl rfl hl.1 rfl (lv_room (Nat.le_of_ble_eq_true rfl)) dL_plays_406 ⟨Nat.le_of_ble_eq_true rfl, Nat.le_of_ble_eq_true rfl⟩) ?_
                                        refine lv_iload hx hb dL_plays_409 (lv_at hl 9 rfl) ?_
                                        refine lv_aload_n hx hb dL_plays_411 rfl (lv_at hl 17 rfl) ?_
                                        refine lv_bipush (v := iI 8) hx hb dL_plays_412 (by decide) ?_
                                        refine lv_iload hx hb dL_plays_414 (lv_at hl 13 rfl) ?_
                                        refine zi_add hx hb dL_plays_416 ?_
                                        refine za_ld hx hb hK hP 29 0 rfl rfl (by omega) (by omega) dL_plays_417 ?_
                                        refine ze_i (y := la st3) (by exact hw8 _ (by omega) (by omega)) ?_
                                        refine zi_add hx hb dL_plays_418 ?_
                                        refine zi_sameN (tgt := 485) hx hb (by omega) dL_plays_419 (by decide) ?_
                                        refine lv_iload hx hb dL_plays_422 (lv_at hl 12 rfl) ?_
                                        refine lv_iload hx hb dL_plays_424 (lv_at hl 14 rfl) ?_
                                        refine zi_ceq (tgt := 485) hx hb (by omega) (by omega) dL_plays_426 (by decide) (fun c_73 => ?_) (fun c_73 => ?_)
                                        · skip
                                          exact absurd c_73 (by omega)
                                        · skip
                                          exact L429   H locs hP hD hS ls (lv_sub hl [0, 1, 2, 3, 4, 5, 6, 7, 8, 9, 10, 11, 12, 13, 14, 15, 16, 17, 18] rfl)
                                  refine lv_iload hx hb dL_plays_369 (lv_at hl 13 rfl) ?_
                                  refine zi_feq (tgt := 391) hx hb (by omega) dL_plays_371 (by decide) (fun c_74 => ?_) (fun c_74 => ?_)
                                  · skip
                                    exact L391   H locs hP hD hS ls (lv_sub hl [0, 1, 2, 3, 4, 5, 6, 7, 8, 9, 10, 11, 12, 13, 14, 15, 16, 17, 18] rfl)
                                  · skip
                                    refine lv_iload hx hb dL_plays_374 (lv_at hl 2 rfl) ?_
                                    refine zi_fne (tgt := 391) hx hb (by decide) dL_plays_376 (by decide) (fun c_75 => ?_) (fun c_75 => ?_)
                                    · skip
                                      exact absurd c_75 (by decide)
                                    · skip
                                      refine lv_iload hx hb dL_plays_379 (lv_at hl 5 rfl) ?_
                                      refine zi_feq (tgt := 391) hx hb (by omega) dL_plays_381 (by decide) (fun c_76 => ?_) (fun c_76 => ?_)
                                      · skip
                                        exact L391   H locs hP hD hS ls (lv_sub hl [0, 1, 2, 3, 4, 5, 6, 7, 8, 9, 10, 11, 12, 13, 14, 15, 16, 17, 18] rfl)
                                      · skip
                                        refine lv_iload hx hb dL_plays_384 (lv_at hl 12 rfl) ?_
                                        refine lv_iload hx hb dL_plays_386 (lv_at hl 14 rfl) ?_
                                        refine zi_ceq (tgt := 485) hx hb (by omega) (by omega) dL_plays_388 (by decide) (fun c_77 => ?_) (fun c_77 => ?_)
                                        · skip
                                          exact absurd c_77 (by omega)
                                        · skip
                                          exact L391   H locs hP hD hS ls (lv_sub hl [0, 1, 2, 3, 4, 5, 6, 7, 8, 9, 10, 11, 12, 13, 14, 15, 16, 17, 18] rfl)
                            · skip
                              exact absurd c_63 (by decide)
                          · skip
                            exact absurd c_62 (by decide)
                        · skip
                          refine lv_iload hx hb dL_plays_324 (lv_at hl 13 rfl) ?_
                          refine lv_iload hx hb dL_plays_326 (lv_at hl 4 rfl) ?_
                          refine zi_sameN (tgt := 363) hx hb (by omega) dL_plays_328 (by decide) ?_
                          refine lv_iload hx hb dL_plays_331 (lv_at hl 1 rfl) ?_
                          refine zi_feq (tgt := 341) hx hb (by decide) dL_plays_333 (by decide) (fun c_78 => ?_) (fun c_78 => ?_)
                          · skip
                            refine lv_iload hx hb dL_plays_341 (lv_at hl 4 rfl) ?_
                            refine lv_iload hx hb dL_plays_343 (lv_at hl 1 rfl) ?_
                            refine zi_feq (tgt := 355) hx hb (by decide) dL_plays_345 (by decide) (fun c_79 => ?_) (fun c_79 => ?_)
                            · skip
                              refine lv_iconst (v := iI 3) hx hb dL_plays_355 rfl ?_
                              refine zi_cgt (tgt := 363) hx hb (by omega) (by decide) dL_plays_356 (by decide) (fun c_80 => ?_) (fun c_80 => ?_)
                              · skip
                                exact absurd c_80 (by omega)
                              · skip
                                refine lv_iconst (v := iI 1) hx hb dL_plays_359 rfl ?_
                                refine lv_goto (tgt := 364) hx hb dL_plays_360 (by decide) ?_
                                refine lv_istore_n (lv' := [(3, .int (iI 1)), (21, .long (lI (((tk + ((pw 0) * (srvx_33 - srv3))) + 0) + ((pw 0) * (latex_32 - late3))))), (20, .int (iI 0)), (18, .long (lI tk)), (17, .int (iI lf)), (16, .int (iI stx_18)), (14, .long (lI (av3 + bd3))), (12, .long (lI sp3)), (11, .int (iI ((((tin3 1) + (tin3 2)) + (tin3 3)) + (tin3 0)))), (10, .int (iI late3)), (9, .int (iI slp3)), (8, .int (iI srv3)), (7, .int (iI (llZ tdue3 tlat3 (-1) 1000000000 nT3))), (6, .int (iI st3)), (5, .int (iI now3)), (4, .int (iI k)), (0, .ref (q 0)), (1, .ref (q 29)), (2, .int (iI n))]) hx hb dL_plays_364 rfl hl (by decide) rfl (fun ls hl => ?_)
                                refine lv_iload_n hx hb dL_plays_365 rfl (lv_at hl 0 rfl) ?_
                                refine zi_feq (tgt := 485) hx hb (by decide) dL_plays_366 (by decide) (fun c_81 => ?_) (fun c_81 => ?_)
                                · skip
                                  exact absurd c_81 (by decide)
                                · skip
                                  have L391 : ∀ (H : Heap) (locs : List Loc), va_P (dC, dI) vwCl (wPW cI cJ cZ q pw co la vo cpar fr cdee use runx_42 nC tduex_22 tlatx_23 twkx_24 nTx_21 eduex_26 elatx_41 ewkx_27 nEx_25 lenx_39 cntx_40 tinx_30 spx_28 pex_29 slpx_31 latex_32 srvx_33 hv avx_34 bdx_35 shx_36 sc lt rule nowx_20 stx_18 aslx_19 idlx_37 idnx_38 par div dee w) H → va_D A (wPW cI cJ cZ q pw co la vo cpar fr cdee use runx_42 nC tduex_22 tlatx_23 twkx_24 nTx_21 eduex_26 elatx_41 ewkx_27 nEx_25 lenx_39 cntx_40 tinx_30 spx_28 pex_29 slpx_31 latex_32 srvx_33 hv avx_34 bdx_35 shx_36 sc lt rule nowx_20 stx_18 aslx_19 idlx_37 idnx_38 par div dee w) → va_S A s.heap H locs → ∀ ls : Array Slot, lv_has ls 23 [(3, .int (iI 1)), (21, .long (lI (((tk + ((pw 0) * (srvx_33 - srv3))) + 0) + ((pw 0) * (latex_32 - late3))))), (20, .int (iI 0)), (18, .long (lI tk)), (17, .int (iI lf)), (16, .int (iI stx_18)), (14, .long (lI (av3 + bd3))), (12, .long (lI sp3)), (11, .int (iI ((((tin3 1) + (tin3 2)) + (tin3 3)) + (tin3 0)))), (10, .int (iI late3)), (9, .int (iI slp3)), (8, .int (iI srv3)), (7, .int (iI (llZ tdue3 tlat3 (-1) 1000000000 nT3))), (6, .int (iI st3)), (5, .int (iI now3)), (4, .int (iI k)), (0, .ref (q 0)), (1, .ref (q 29)), (2, .int (iI n))] → W p l e rmL_plays s m ([.ref (q 0), .ref (q 29), .int (iI n)] : List Value).toArray below meth c H locs 0 0 Q (F0 m 391 ls []) := by
                                    intro H locs hP hD hS ls hl
                                    have L429 : ∀ (H : Heap) (locs : List Loc), va_P (dC, dI) vwCl (wPW cI cJ cZ q pw co la vo cpar fr cdee use runx_42 nC tduex_22 tlatx_23 twkx_24 nTx_21 eduex_26 elatx_41 ewkx_27 nEx_25 lenx_39 cntx_40 tinx_30 spx_28 pex_29 slpx_31 latex_32 srvx_33 hv avx_34 bdx_35 shx_36 sc lt rule nowx_20 stx_18 aslx_19 idlx_37 idnx_38 par div dee w) H → va_D A (wPW cI cJ cZ q pw co la vo cpar fr cdee use runx_42 nC tduex_22 tlatx_23 twkx_24 nTx_21 eduex_26 elatx_41 ewkx_27 nEx_25 lenx_39 cntx_40 tinx_30 spx_28 pex_29 slpx_31 latex_32 srvx_33 hv avx_34 bdx_35 shx_36 sc lt rule nowx_20 stx_18 aslx_19 idlx_37 idnx_38 par div dee w) → va_S A s.heap H locs → ∀ ls : Array Slot, lv_has ls 23 [(3, .int (iI 1)), (21, .long (lI (((tk + ((pw 0) * (srvx_33 - srv3))) + 0) + ((pw 0) * (latex_32 - late3))))), (20, .int (iI 0)), (18, .long (lI tk)), (17, .int (iI lf)), (16, .int (iI stx_18)), (14, .long (lI (av3 + bd3))), (12, .long (lI sp3)), (11, .int (iI ((((tin3 1) + (tin3 2)) + (tin3 3)) + (tin3 0)))), (10, .int (iI late3)), (9, .int (iI slp3)), (8, .int (iI srv3)), (7, .int (iI (llZ tdue3 tlat3 (-1) 1000000000 nT3))), (6, .int (iI st3)), (5, .int (iI now3)), (4, .int (iI k)), (0, .ref (q 0)), (1, .ref (q 29)), (2, .int (iI n))] → W p l e rmL_plays s m ([.ref (q 0), .ref (q 29), .int (iI n)] : List Value).toArray below meth c H locs 0 0 Q (F0 m 429 ls []) := by
                                      intro H locs hP hD hS ls hl
                                      refine lv_aload_n hx hb dL_plays_429 rfl (lv_at hl 16 rfl) ?_
                                      refine zc_pi (va_runV (As := []) (rest := []) ⟨hx, hb, hml, hown, hts⟩ (kX7_available l dC dI cI cJ cZ q pw co la vo cpar fr cdee use runx_42 nC tduex_22 tlatx_23 twkx_24 nTx_21 eduex_26 elatx_41 ewkx_27 nEx_25 lenx_39 cntx_40 tinx_30 spx_28 pex_29 slpx_31 latex_32 srvx_33 hv avx_34 bdx_35 shx_36 sc lt rule nowx_20 stx_18 aslx_19 idlx_37 idnx_38 par div dee) (cwV 0 hts gL_plays_X7_available rfl rfl rfl (by decide +kernel) ⟨Nat.le_of_ble_eq_true rfl, Nat.le_of_ble_eq_true rfl⟩) (zqV hK hP [0, 1, 2, 3, 4, 5, 6, 7, 8, 9, 10, 11, 12, 13, 14, 15, 16, 17, 18, 19, 20, 21, 22, 23, 24, 25, 26, 27, 28] rfl 0 rfl rfl) rfl rfl hl.1 rfl (lv_room (Nat.le_of_ble_eq_true rfl)) dL_plays_430 ⟨Nat.le_of_ble_eq_true rfl, Nat.le_of_ble_eq_true rfl⟩) ?_
                                      refine zi_flt (tgt := 485) hx hb (by omega) dL_plays_433 (by decide) (fun c_82 => ?_) (fun c_82 => ?_)
                                      · skip
                                        exact absurd c_82 (by omega)
                                      · skip
                                        refine lv_aload_n hx hb dL_plays_436 rfl (lv_at hl 16 rfl) ?_
                                        refine zc_pi (va_runV (As := []) (rest := []) ⟨hx, hb, hml, hown, hts⟩ (kX7_available l dC dI cI cJ cZ q pw co la vo cpar fr cdee use runx_42 nC tduex_22 tlatx_23 twkx_24 nTx_21 eduex_26 elatx_41 ewkx_27 nEx_25 lenx_39 cntx_40 tinx_30 spx_28 pex_29 slpx_31 latex_32 srvx_33 hv avx_34 bdx_35 shx_36 sc lt rule nowx_20 stx_18 aslx_19 idlx_37 idnx_38 par div dee) (cwV 0 hts gL_plays_X7_available rfl rfl rfl (by decide +kernel) ⟨Nat.le_of_ble_eq_true rfl, Nat.le_of_ble_eq_true rfl⟩) (zqV hK hP [0, 1, 2, 3, 4, 5, 6, 7, 8, 9, 10, 11, 12, 13, 14, 15, 16, 17, 18, 19, 20, 21, 22, 23, 24, 25, 26, 27, 28] rfl 0 rfl rfl) rfl rfl hl.1 rfl (lv_room (Nat.le_of_ble_eq_true rfl)) dL_plays_437 ⟨Nat.le_of_ble_eq_true rfl, Nat.le_of_ble_eq_true rfl⟩) ?_
                                        refine lv_ldc (v := iI 50000) hx hb hown (hts _ (List.mem_of_getElem? (i := 2) rfl)) dL_plays_440 ?_
                                        refine zi_cgt (tgt := 485) hx hb (by omega) (by decide) dL_plays_442 (by decide) (fun c_83 => ?_) (fun c_83 => ?_)
                                        · skip
                                          exact absurd c_83 (by omega)
                                        · skip
                                          refine lv_aload_n hx hb dL_plays_445 rfl (lv_at hl 16 rfl) ?_
                                          refine zc_pi (va_runV (As := []) (rest := []) ⟨hx, hb, hml, hown, hts⟩ (kX7_bound l dC dI cI cJ cZ q pw co la vo cpar fr cdee use runx_42 nC tduex_22 tlatx_23 twkx_24 nTx_21 eduex_26 elatx_41 ewkx_27 nEx_25 lenx_39 cntx_40 tinx_30 spx_28 pex_29 slpx_31 latex_32 srvx_33 hv avx_34 bdx_35 shx_36 sc lt rule nowx_20 stx_18 aslx_19 idlx_37 idnx_38 par div dee) (cwV 0 hts gL_plays_X7_bound rfl rfl rfl (by decide +kernel) ⟨Nat.le_of_ble_eq_true rfl, Nat.le_of_ble_eq_true rfl⟩) (zqV hK hP [0, 1, 2, 3, 4, 5, 6, 7, 8, 9, 10, 11, 12, 13, 14, 15, 16, 17, 18, 19, 20, 21, 22, 23, 24, 25, 26, 27, 28] rfl 0 rfl rfl) rfl rfl hl.1 rfl (lv_room (Nat.le_of_ble_eq_true rfl)) dL_plays_446 ⟨Nat.le_of_ble_eq_true rfl, Nat.le_of_ble_eq_true rfl⟩) ?_
                                          refine zi_flt (tgt := 485) hx hb (by omega) dL_plays_449 (by decide) (fun c_84 => ?_) (fun c_84 => ?_)
                                          · skip
                                            exact absurd c_84 (by omega)
                                          · skip
                                            refine lv_aload_n hx hb dL_plays_452 rfl (lv_at hl 16 rfl) ?_
                                            refine zc_pi (va_runV (As := []) (rest := []) ⟨hx, hb, hml, hown, hts⟩ (kX7_bound l dC dI cI cJ cZ q pw co la vo cpar fr cdee use runx_42 nC tduex_22 tlatx_23 twkx_24 nTx_21 eduex_26 elatx_41 ewkx_27 nEx_25 lenx_39 cntx_40 tinx_30 spx_28 pex_29 slpx_31 latex_32 srvx_33 hv avx_34 bdx_35 shx_36 sc lt rule nowx_20 stx_18 aslx_19 idlx_37 idnx_38 par div dee) (cwV 0 hts gL_plays_X7_bound rfl rfl rfl (by decide +kernel) ⟨Nat.le_of_ble_eq_true rfl, Nat.le_of_ble_eq_true rfl⟩) (zqV hK hP [0, 1, 2, 3, 4, 5, 6, 7, 8, 9, 10, 11, 12, 13, 14, 15, 16, 17, 18, 19, 20, 21, 22, 23, 24, 25, 26, 27, 28] rfl 0 rfl rfl) rfl rfl hl.1 rfl (lv_room (Nat.le_of_ble_eq_true rfl)) dL_plays_453 ⟨Nat.le_of_ble_eq_true rfl, Nat.le_of_ble_eq_true rfl⟩) ?_
                                            refine lv_ldc (v := iI 100000) hx hb hown (hts _ (List.mem_of_getElem? (i := 1) rfl)) dL_plays_456 ?_
                                            refine zi_cgt (tgt := 485) hx hb (by omega) (by decide) dL_plays_458 (by decide) (fun c_85 => ?_) (fun c_85 => ?_)
                                            · skip
                                              exact absurd c_85 (by omega)
                                            · skip
                                              refine lv_aload_n hx hb dL_plays_461 rfl (lv_at hl 16 rfl) ?_
                                              refine zc_pi (va_runV (As := []) (rest := []) ⟨hx, hb, hml, hown, hts⟩ (kX7_available l dC dI cI cJ cZ q pw co la vo cpar fr cdee use runx_42 nC tduex_22 tlatx_23 twkx_24 nTx_21 eduex_26 elatx_41 ewkx_27 nEx_25 lenx_39 cntx_40 tinx_30 spx_28 pex_29 slpx_31 latex_32 srvx_33 hv avx_34 bdx_35 shx_36 sc lt rule nowx_20 stx_18 aslx_19 idlx_37 idnx_38 par div dee) (cwV 0 hts gL_plays_X7_available rfl rfl rfl (by decide +kernel) ⟨Nat.le_of_ble_eq_true rfl, Nat.le_of_ble_eq_true rfl⟩) (zqV hK hP [0, 1, 2, 3, 4, 5, 6, 7, 8, 9, 10, 11, 12, 13, 14, 15, 16, 17, 18, 19, 20, 21, 22, 23, 24, 25, 26, 27, 28] rfl 0 rfl rfl) rfl rfl hl.1 rfl (lv_room (Nat.le_of_ble_eq_true rfl)) dL_plays_462 ⟨Nat.le_of_ble_eq_true rfl, Nat.le_of_ble_eq_true rfl⟩) ?_
                                              refine lv_aload_n hx hb dL_plays_465 rfl (lv_at hl 16 rfl) ?_
                                              refine zc_pi (va_runV (As := []) (rest := [.int (iI avx_34)]) ⟨hx, hb, hml, hown, hts⟩ (kX7_bound l dC dI cI cJ cZ q pw co la vo cpar fr cdee use runx_42 nC tduex_22 tlatx_23 twkx_24 nTx_21 eduex_26 elatx_41 ewkx_27 nEx_25 lenx_39 cntx_40 tinx_30 spx_28 pex_29 slpx_31 latex_32 srvx_33 hv avx_34 bdx_35 shx_36 sc lt rule nowx_20 stx_18 aslx_19 idlx_37 idnx_38 par div dee) (cwV 0 hts gL_plays_X7_bound rfl rfl rfl (by decide +kernel) ⟨Nat.le_of_ble_eq_true rfl, Nat.le_of_ble_eq_true rfl⟩) (zqV hK hP [0, 1, 2, 3, 4, 5, 6, 7, 8, 9, 10, 11, 12, 13, 14, 15, 16, 17, 18, 19, 20, 21, 22, 23, 24, 25, 26, 27, 28] rfl 0 rfl rfl) rfl rfl hl.1 rfl (lv_room (Nat.le_of_ble_eq_true rfl)) dL_plays_466 ⟨Nat.le_of_ble_eq_true rfl, Nat.le_of_ble_eq_true rfl⟩) ?_
                                              refine zi_add hx hb dL_plays_469 ?_
                                              refine zi_l hx hb (by omega) dL_plays_470 ?_
                                              refine lv_lload hx hb dL_plays_471 (lv_at hl 6 rfl) ?_
                                              refine lv_ldc2 (v := lI 1000) hx hb hown (hts _ (List.mem_of_getElem? (i := 3) rfl)) dL_plays_473 ?_
                                              refine zl_add hx hb dL_plays_476 ?_
                                              refine zl_cgt (tgt := 485) hx hb (by omega) (by omega) dL_plays_477 dL_plays_478 (by decide) (fun c_86 => ?_) (fun c_86 => ?_)
                                              · skip
                                                exact absurd c_86 (by omega)
                                              · skip
                                                refine lv_iconst (v := iI 1) hx hb dL_plays_481 rfl ?_
                                                refine lv_goto (tgt := 486) hx hb dL_plays_482 (by decide) ?_
                                                refine lv_istore_n (lv' := [(3, .int (iI 1)), (21, .long (lI (((tk + ((pw 0) * (srvx_33 - srv3))) + 0) + ((pw 0) * (latex_32 - late3))))), (20, .int (iI 0)), (18, .long (lI tk)), (17, .int (iI lf)), (16, .int (iI stx_18)), (14, .long (lI (av3 + bd3))), (12, .long (lI sp3)), (11, .int (iI ((((tin3 1) + (tin3 2)) + (tin3 3)) + (tin3 0)))), (10, .int (iI late3)), (9, .int (iI slp3)), (8, .int (iI srv3)), (7, .int (iI (llZ tdue3 tlat3 (-1) 1000000000 nT3))), (6, .int (iI st3)), (5, .int (iI now3)), (4, .int (iI k)), (0, .ref (q 0)), (1, .ref (q 29)), (2, .int (iI n))]) hx hb dL_plays_486 rfl hl (by decide) rfl (fun ls hl => ?_)
                                                refine lv_iinc (v := iI (k + 1)) (lv' := [(4, .int (iI (k + 1))), (3, .int (iI 1)), (21, .long (lI (((tk + ((pw 0) * (srvx_33 - srv3))) + 0) + ((pw 0) * (latex_32 - late3))))), (20, .int (iI 0)), (18, .long (lI tk)), (17, .int (iI lf)), (16, .int (iI stx_18)), (14, .long (lI (av3 + bd3))), (12, .long (lI sp3)), (11, .int (iI ((((tin3 1) + (tin3 2)) + (tin3 3)) + (tin3 0)))), (10, .int (iI late3)), (9, .int (iI slp3)), (8, .int (iI srv3)), (7, .int (iI (llZ tdue3 tlat3 (-1) 1000000000 nT3))), (6, .int (iI st3)), (5, .int (iI now3)), (0, .ref (q 0)), (1, .ref (q 29)), (2, .int (iI n))]) hx hb dL_plays_487 hl (k := 15) rfl (iI_add _ _) (by decide) rfl (fun ls hl => ?_)
                                                refine lv_goto (tgt := 5) hx hb dL_plays_490 (by decide) ?_
                                                exact ih (k + 1) stx_18 aslx_19 nowx_20 nTx_21 tduex_22 tlatx_23 twkx_24 nEx_25 eduex_26 ewkx_27 spx_28 pex_29 tinx_30 slpx_31 latex_32 srvx_33 avx_34 bdx_35 shx_36 idlx_37 idnx_38 lenx_39 cntx_40 elatx_41 runx_42 (by omega) (by rw [← Int.add_assoc]; first | exact hI9 | exact lj_run hI9 (rn_t (r0_t hrun9))) (by omega) H locs hP hD hS ls (lv_sub hl [0, 1, 16, 17, 18] rfl)
                                    refine lv_iload hx hb dL_plays_391 (lv_at hl 9 rfl) ?_
                                    refine lv_aload_n hx hb dL_plays_393 rfl (lv_at hl 16 rfl) ?_
                                    refine zc_pi (va_runV (As := []) (rest := [.int (iI late3)]) ⟨hx, hb, hml, hown, hts⟩ (kX7_lateness l dC dI cI cJ cZ q pw co la vo cpar fr cdee use runx_42 nC tduex_22 tlatx_23 twkx_24 nTx_21 eduex_26 elatx_41 ewkx_27 nEx_25 lenx_39 cntx_40 tinx_30 spx_28 pex_29 slpx_31 latex_32 srvx_33 hv avx_34 bdx_35 shx_36 sc lt rule nowx_20 stx_18 aslx_19 idlx_37 idnx_38 par div dee) (cwV 0 hts gL_plays_X7_lateness rfl rfl rfl (by decide +kernel) ⟨Nat.le_of_ble_eq_true rfl, Nat.le_of_ble_eq_true rfl⟩) (zqV hK hP [0, 1, 2, 3, 4, 5, 6, 7, 8, 9, 10, 11, 12, 13, 14, 15, 16, 17, 18, 19, 20, 21, 22, 23, 24, 25, 26, 27, 28] rfl 0 rfl rfl) rfl rfl hl.1 rfl (lv_room (Nat.le_of_ble_eq_true rfl)) dL_plays_394 ⟨Nat.le_of_ble_eq_true rfl, Nat.le_of_ble_eq_true rfl⟩) ?_
                                    refine zi_ceq (tgt := 429) hx hb (by omega) (by omega) dL_plays_397 (by decide) (fun c_87 => ?_) (fun c_87 => ?_)
                                    · skip
                                      exact L429   H locs hP hD hS ls (lv_sub hl [0, 1, 2, 3, 4, 5, 6, 7, 8, 9, 10, 11, 12, 13, 14, 15, 16, 17, 18] rfl)
                                    · skip
                                      refine lv_iload hx hb dL_plays_400 (lv_at hl 13 rfl) ?_
                                      refine zi_fle (tgt := 485) hx hb (by omega) dL_plays_402 (by decide) (fun c_88 => ?_) (fun c_88 => ?_)
                                      · skip
                                        exact absurd c_88 (by omega)
                                      · skip
                                        refine lv_aload_n hx hb dL_plays_405 rfl (lv_at hl 16 rfl) ?_
                                        refine zc_pi (va_runV (As := []) (rest := []) ⟨hx, hb, hml, hown, hts⟩ (kX7_lateness l dC dI cI cJ cZ q pw co la vo cpar fr cdee use runx_42 nC tduex_22 tlatx_23 twkx_24 nTx_21 eduex_26 elatx_41 ewkx_27 nEx_25 lenx_39 cntx_40 tinx_30 spx_28 pex_29 slpx_31 latex_32 srvx_33 hv avx_34 bdx_35 shx_36 sc lt rule nowx_20 stx_18 aslx_19 idlx_37 idnx_38 par div dee) (cwV 0 hts gL_plays_X7_lateness rfl rfl rfl (by decide +kernel) ⟨Nat.le_of_ble_eq_true rfl, Nat.le_of_ble_eq_true rfl⟩) (zqV hK hP [0, 1, 2, 3, 4, 5, 6, 7, 8, 9, 10, 11, 12, 13, 14, 15, 16, 17, 18, 19, 20, 21, 22, 23, 24, 25, 26, 27, 28] rfl 0 rfl rfl) rfl rfl hl.1 rfl (lv_room (Nat.le_of_ble_eq_true rfl)) dL_plays_406 ⟨Nat.le_of_ble_eq_true rfl, Nat.le_of_ble_eq_true rfl⟩) ?_
                                        refine lv_iload hx hb dL_plays_409 (lv_at hl 9 rfl) ?_
                                        refine lv_aload_n hx hb dL_plays_411 rfl (lv_at hl 17 rfl) ?_
                                        refine lv_bipush (v := iI 8) hx hb dL_plays_412 (by decide) ?_
                                        refine lv_iload hx hb dL_plays_414 (lv_at hl 13 rfl) ?_
                                        refine zi_add hx hb dL_plays_416 ?_
                                        refine za_ld hx hb hK hP 29 0 rfl rfl (by omega) (by omega) dL_plays_417 ?_
                                        refine ze_i (y := la st3) (by exact hw8 _ (by omega) (by omega)) ?_
                                        refine zi_add hx hb dL_plays_418 ?_
                                        refine zi_sameN (tgt := 485) hx hb (by omega) dL_plays_419 (by decide) ?_
                                        refine lv_iload hx hb dL_plays_422 (lv_at hl 12 rfl) ?_
                                        refine lv_iload hx hb dL_plays_424 (lv_at hl 14 rfl) ?_
                                        refine zi_ceq (tgt := 485) hx hb (by omega) (by omega) dL_plays_426 (by decide) (fun c_89 => ?_) (fun c_89 => ?_)
                                        · skip
                                          exact absurd c_89 (by omega)
                                        · skip
                                          exact L429   H locs hP hD hS ls (lv_sub hl [0, 1, 2, 3, 4, 5, 6, 7, 8, 9, 10, 11, 12, 13, 14, 15, 16, 17, 18] rfl)
                                  refine lv_iload hx hb dL_plays_369 (lv_at hl 13 rfl) ?_
                                  refine zi_feq (tgt := 391) hx hb (by omega) dL_plays_371 (by decide) (fun c_90 => ?_) (fun c_90 => ?_)
                                  · skip
                                    exact L391   H locs hP hD hS ls (lv_sub hl [0, 1, 2, 3, 4, 5, 6, 7, 8, 9, 10, 11, 12, 13, 14, 15, 16, 17, 18] rfl)
                                  · skip
                                    refine lv_iload hx hb dL_plays_374 (lv_at hl 2 rfl) ?_
                                    refine zi_fne (tgt := 391) hx hb (by decide) dL_plays_376 (by decide) (fun c_91 => ?_) (fun c_91 => ?_)
                                    · skip
                                      exact absurd c_91 (by decide)
                                    · skip
                                      refine lv_iload hx hb dL_plays_379 (lv_at hl 5 rfl) ?_
                                      refine zi_feq (tgt := 391) hx hb (by omega) dL_plays_381 (by decide) (fun c_92 => ?_) (fun c_92 => ?_)
                                      · skip
                                        exact L391   H locs hP hD hS ls (lv_sub hl [0, 1, 2, 3, 4, 5, 6, 7, 8, 9, 10, 11, 12, 13, 14, 15, 16, 17, 18] rfl)
                                      · skip
                                        refine lv_iload hx hb dL_plays_384 (lv_at hl 12 rfl) ?_
                                        refine lv_iload hx hb dL_plays_386 (lv_at hl 14 rfl) ?_
                                        refine zi_ceq (tgt := 485) hx hb (by omega) (by omega) dL_plays_388 (by decide) (fun c_93 => ?_) (fun c_93 => ?_)
                                        · skip
                                          exact absurd c_93 (by omega)
                                        · skip
                                          exact L391   H locs hP hD hS ls (lv_sub hl [0, 1, 2, 3, 4, 5, 6, 7, 8, 9, 10, 11, 12, 13, 14, 15, 16, 17, 18] rfl)
                            · skip
                              exact absurd c_79 (by decide)
                          · skip
                            exact absurd c_78 (by decide)
                    · skip
                      exact absurd c_59 (by decide)
                · skip
                  exact absurd c_57 (by decide)
              · skip
                refine lv_iconst (v := iI 1) hx hb dL_plays_221 rfl ?_
                refine lv_goto (tgt := 226) hx hb dL_plays_222 (by decide) ?_
                refine lv_istore (lv' := [(20, .int (iI 1)), (18, .long (lI tk)), (17, .int (iI lf)), (16, .int (iI stx_18)), (3, .int (iI 1)), (14, .long (lI (av3 + bd3))), (12, .long (lI sp3)), (11, .int (iI ((((tin3 1) + (tin3 2)) + (tin3 3)) + (tin3 0)))), (10, .int (iI late3)), (9, .int (iI slp3)), (8, .int (iI srv3)), (7, .int (iI (llZ tdue3 tlat3 (-1) 1000000000 nT3))), (6, .int (iI st3)), (5, .int (iI now3)), (4, .int (iI k)), (0, .ref (q 0)), (1, .ref (q 29)), (2, .int (iI n))]) hx hb dL_plays_226 hl (by decide) rfl (fun ls hl => ?_)
                refine lv_lload hx hb dL_plays_228 (lv_at hl 1 rfl) ?_
                refine lv_aload_n hx hb dL_plays_230 rfl (lv_at hl 16 rfl) ?_
                refine lv_iconst (v := iI 0) hx hb dL_plays_231 rfl ?_
                refine za_ld hx hb hK hP 29 0 rfl rfl (by omega) (by omega) dL_plays_232 ?_
                refine ze_i (y := pw 0) (by exact hw0 _ (by omega) (by omega)) ?_
                refine zi_l hx hb (by omega) dL_plays_233 ?_
                refine lv_aload_n hx hb dL_plays_234 rfl (lv_at hl 15 rfl) ?_
                refine zc_pi (va_runV (As := []) (rest := [.long (lI (pw 0)), .long (lI tk)]) ⟨hx, hb, hml, hown, hts⟩ (kX7_served l dC dI cI cJ cZ q pw co la vo cpar fr cdee use runx_42 nC tduex_22 tlatx_23 twkx_24 nTx_21 eduex_26 elatx_41 ewkx_27 nEx_25 lenx_39 cntx_40 tinx_30 spx_28 pex_29 slpx_31 latex_32 srvx_33 hv avx_34 bdx_35 shx_36 sc lt rule nowx_20 stx_18 aslx_19 idlx_37 idnx_38 par div dee) (cwV 0 hts gL_plays_X7_served rfl rfl rfl (by decide +kernel) ⟨Nat.le_of_ble_eq_true rfl, Nat.le_of_ble_eq_true rfl⟩) (zqV hK hP [0, 1, 2, 3, 4, 5, 6, 7, 8, 9, 10, 11, 12, 13, 14, 15, 16, 17, 18, 19, 20, 21, 22, 23, 24, 25, 26, 27, 28] rfl 0 rfl rfl) rfl rfl hl.1 rfl (lv_room (Nat.le_of_ble_eq_true rfl)) dL_plays_235 ⟨Nat.le_of_ble_eq_true rfl, Nat.le_of_ble_eq_true rfl⟩) ?_
                refine lv_iload hx hb dL_plays_238 (lv_at hl 10 rfl) ?_
                refine zi_sub hx hb dL_plays_240 ?_
                refine zi_l hx hb (by omega) dL_plays_241 ?_
                refine zl_mul hx hb dL_plays_242 ?_
                refine zl_add hx hb dL_plays_243 ?_
                refine lv_iload hx hb dL_plays_244 (lv_at hl 0 rfl) ?_
                refine zi_feq (tgt := 259) hx hb (by decide) dL_plays_246 (by decide) (fun c_94 => ?_) (fun c_94 => ?_)
                · skip
                  exact absurd c_94 (by decide)
                · skip
                  refine lv_aload_n hx hb dL_plays_249 rfl (lv_at hl 16 rfl) ?_
                  refine lv_iconst (v := iI 4) hx hb dL_plays_250 rfl ?_
                  refine lv_iload hx hb dL_plays_251 (lv_at hl 3 rfl) ?_
                  refine zi_add hx hb dL_plays_253 ?_
                  refine za_ld hx hb hK hP 29 0 rfl rfl (by omega) (by omega) dL_plays_254 ?_
                  refine ze_i (y := co stx_18) (by exact hw4 _ (by omega) (by omega)) ?_
                  refine zi_l hx hb (by omega) dL_plays_255 ?_
                  refine lv_goto (tgt := 260) hx hb dL_plays_256 (by decide) ?_
                  refine zl_add hx hb dL_plays_260 ?_
                  refine lv_aload_n hx hb dL_plays_261 rfl (lv_at hl 16 rfl) ?_
                  refine lv_iconst (v := iI 0) hx hb dL_plays_262 rfl ?_
                  refine za_ld hx hb hK hP 29 0 rfl rfl (by omega) (by omega) dL_plays_263 ?_
                  refine ze_i (y := pw 0) (by exact hw0 _ (by omega) (by omega)) ?_
                  refine zi_l hx hb (by omega) dL_plays_264 ?_
                  refine lv_aload_n hx hb dL_plays_265 rfl (lv_at hl 15 rfl) ?_
                  refine zc_pi (va_runV (As := []) (rest := [.long (lI (pw 0)), .long (lI ((tk + ((pw 0) * (srvx_33 - srv3))) + (co stx_18)))]) ⟨hx, hb, hml, hown, hts⟩ (kX7_lateness l dC dI cI cJ cZ q pw co la vo cpar fr cdee use runx_42 nC tduex_22 tlatx_23 twkx_24 nTx_21 eduex_26 elatx_41 ewkx_27 nEx_25 lenx_39 cntx_40 tinx_30 spx_28 pex_29 slpx_31 latex_32 srvx_33 hv avx_34 bdx_35 shx_36 sc lt rule nowx_20 stx_18 aslx_19 idlx_37 idnx_38 par div dee) (cwV 0 hts gL_plays_X7_lateness rfl rfl rfl (by decide +kernel) ⟨Nat.le_of_ble_eq_true rfl, Nat.le_of_ble_eq_true rfl⟩) (zqV hK hP [0, 1, 2, 3, 4, 5, 6, 7, 8, 9, 10, 11, 12, 13, 14, 15, 16, 17, 18, 19, 20, 21, 22, 23, 24, 25, 26, 27, 28] rfl 0 rfl rfl) rfl rfl hl.1 rfl (lv_room (Nat.le_of_ble_eq_true rfl)) dL_plays_266 ⟨Nat.le_of_ble_eq_true rfl, Nat.le_of_ble_eq_true rfl⟩) ?_
                  refine lv_iload hx hb dL_plays_269 (lv_at hl 8 rfl) ?_
                  refine zi_sub hx hb dL_plays_271 ?_
                  refine zi_l hx hb (by omega) dL_plays_272 ?_
                  refine zl_mul hx hb dL_plays_273 ?_
                  refine zl_add hx hb dL_plays_274 ?_
                  refine lv_lstore (lv' := [(21, .long (lI (((tk + ((pw 0) * (srvx_33 - srv3))) + (co stx_18)) + ((pw 0) * (latex_32 - late3))))), (20, .int (iI 1)), (18, .long (lI tk)), (17, .int (iI lf)), (16, .int (iI stx_18)), (3, .int (iI 1)), (14, .long (lI (av3 + bd3))), (12, .long (lI sp3)), (11, .int (iI ((((tin3 1) + (tin3 2)) + (tin3 3)) + (tin3 0)))), (10, .int (iI late3)), (9, .int (iI slp3)), (8, .int (iI srv3)), (7, .int (iI (llZ tdue3 tlat3 (-1) 1000000000 nT3))), (6, .int (iI st3)), (5, .int (iI now3)), (4, .int (iI k)), (0, .ref (q 0)), (1, .ref (q 29)), (2, .int (iI n))]) hx hb dL_plays_275 hl (by decide) rfl (fun ls hl => ?_)
                  refine lv_iload_n hx hb dL_plays_277 rfl (lv_at hl 5 rfl) ?_
                  refine zi_feq (tgt := 363) hx hb (by decide) dL_plays_278 (by decide) (fun c_95 => ?_) (fun c_95 => ?_)
                  · skip
                    exact absurd c_95 (by decide)
                  · skip
                    refine lv_aload_n hx hb dL_plays_281 rfl (lv_at hl 16 rfl) ?_
                    refine zc_pl (va_runV (As := []) (rest := []) ⟨hx, hb, hml, hown, hts⟩ (kX7_spent l dC dI cI cJ cZ q pw co la vo cpar fr cdee use runx_42 nC tduex_22 tlatx_23 twkx_24 nTx_21 eduex_26 elatx_41 ewkx_27 nEx_25 lenx_39 cntx_40 tinx_30 spx_28 pex_29 slpx_31 latex_32 srvx_33 hv avx_34 bdx_35 shx_36 sc lt rule nowx_20 stx_18 aslx_19 idlx_37 idnx_38 par div dee) (cwV 0 hts gL_plays_X7_spent rfl rfl rfl (by decide +kernel) ⟨Nat.le_of_ble_eq_true rfl, Nat.le_of_ble_eq_true rfl⟩) (zqV hK hP [0, 1, 2, 3, 4, 5, 6, 7, 8, 9, 10, 11, 12, 13, 14, 15, 16, 17, 18, 19, 20, 21, 22, 23, 24, 25, 26, 27, 28] rfl 0 rfl rfl) rfl rfl hl.1 rfl (lv_room (Nat.le_of_ble_eq_true rfl)) dL_plays_282 ⟨Nat.le_of_ble_eq_true rfl, Nat.le_of_ble_eq_true rfl⟩) ?_
                    refine lv_lload hx hb dL_plays_285 (lv_at hl 7 rfl) ?_
                    refine lv_lload hx hb dL_plays_287 (lv_at hl 0 rfl) ?_
                    refine zl_add hx hb dL_plays_289 ?_
                    refine zl_sameN (tgt := 363) hx hb (by rw [f5, htk9]; first | (rw [if_pos (by omega)]; done) | (rw [if_neg (by omega)]; done)) dL_plays_290 dL_plays_291 (by decide) ?_
                    refine lv_aload_n hx hb dL_plays_294 rfl (lv_at hl 16 rfl) ?_
                    refine zc_pi (va_runV (As := []) (rest := []) ⟨hx, hb, hml, hown, hts⟩ (kX7_sleeps l dC dI cI cJ cZ q pw co la vo cpar fr cdee use runx_42 nC tduex_22 tlatx_23 twkx_24 nTx_21 eduex_26 elatx_41 ewkx_27 nEx_25 lenx_39 cntx_40 tinx_30 spx_28 pex_29 slpx_31 latex_32 srvx_33 hv avx_34 bdx_35 shx_36 sc lt rule nowx_20 stx_18 aslx_19 idlx_37 idnx_38 par div dee) (cwV 0 hts gL_plays_X7_sleeps rfl rfl rfl (by decide +kernel) ⟨Nat.le_of_ble_eq_true rfl, Nat.le_of_ble_eq_true rfl⟩) (zqV hK hP [0, 1, 2, 3, 4, 5, 6, 7, 8, 9, 10, 11, 12, 13, 14, 15, 16, 17, 18, 19, 20, 21, 22, 23, 24, 25, 26, 27, 28] rfl 0 rfl rfl) rfl rfl hl.1 rfl (lv_room (Nat.le_of_ble_eq_true rfl)) dL_plays_295 ⟨Nat.le_of_ble_eq_true rfl, Nat.le_of_ble_eq_true rfl⟩) ?_
                    refine lv_iload hx hb dL_plays_298 (lv_at hl 10 rfl) ?_
                    refine zi_sub hx hb dL_plays_300 ?_
                    refine lv_iload hx hb dL_plays_301 (lv_at hl 1 rfl) ?_
                    refine zi_feq (tgt := 310) hx hb (by decide) dL_plays_303 (by decide) (fun c_96 => ?_) (fun c_96 => ?_)
                    · skip
                      exact absurd c_96 (by decide)
                    · skip
                      refine lv_iconst (v := iI 1) hx hb dL_plays_306 rfl ?_
                      refine lv_goto (tgt := 311) hx hb dL_plays_307 (by decide) ?_
                      refine zi_sameN (tgt := 363) hx hb (by omega) dL_plays_311 (by decide) ?_
                      refine lv_iload hx hb dL_plays_314 (lv_at hl 1 rfl) ?_
                      refine zi_fne (tgt := 331) hx hb (by decide) dL_plays_316 (by decide) (fun c_97 => ?_) (fun c_97 => ?_)
                      · skip
                        refine lv_iload hx hb dL_plays_331 (lv_at hl 1 rfl) ?_
                        refine zi_feq (tgt := 341) hx hb (by decide) dL_plays_333 (by decide) (fun c_98 => ?_) (fun c_98 => ?_)
                        · skip
                          exact absurd c_98 (by decide)
                        · skip
                          refine lv_iload hx hb dL_plays_336 (lv_at hl 4 rfl) ?_
                          refine zi_fle (tgt := 363) hx hb (by omega) dL_plays_338 (by decide) (fun c_99 => ?_) (fun c_99 => ?_)
                          · skip
                            exact absurd c_99 (by omega)
                          · skip
                            refine lv_iload hx hb dL_plays_341 (lv_at hl 4 rfl) ?_
                            refine lv_iload hx hb dL_plays_343 (lv_at hl 1 rfl) ?_
                            refine zi_feq (tgt := 355) hx hb (by decide) dL_plays_345 (by decide) (fun c_100 => ?_) (fun c_100 => ?_)
                            · skip
                              exact absurd c_100 (by decide)
                            · skip
                              refine lv_aload_n hx hb dL_plays_348 rfl (lv_at hl 16 rfl) ?_
                              refine zc_i (va_runV (As := []) (rest := [.int (iI stx_18)]) ⟨hx, hb, hml, hown, hts⟩ (kX7_depth l dC dI cI cJ cZ q pw co la vo cpar fr cdee use runx_42 nC tduex_22 tlatx_23 twkx_24 nTx_21 eduex_26 elatx_41 ewkx_27 nEx_25 lenx_39 cntx_40 tinx_30 spx_28 pex_29 slpx_31 latex_32 srvx_33 hv avx_34 bdx_35 shx_36 sc lt rule nowx_20 stx_18 aslx_19 idlx_37 idnx_38 par div dee (by first | assumption | omega | exact b2i_01 _) (by first | assumption | omega | exact b2i_01 _) (by first | assumption | omega | exact b2i_01 _) (by first | assumption | omega | exact b2i_01 _) (by first | assumption | omega | exact b2i_01 _) (by first | assumption | omega | exact b2i_01 _) (by first | assumption | omega | exact b2i_01 _) (by first | assumption | omega | exact b2i_01 _) (by first | assumption | omega | exact b2i_01 _) H.size) (cwV 0 hts gL_plays_X7_depth rfl rfl rfl (by decide +kernel) ⟨Nat.le_of_ble_eq_true rfl, Nat.le_of_ble_eq_true rfl⟩) (zpV hK hP hD [0, 1, 2, 3, 4, 5, 6, 7, 8, 9, 10, 11, 12, 13, 14, 15, 16, 17, 18, 19, 20, 21, 22, 23, 24, 25, 26, 27, 28] rfl rfl 0 rfl rfl) rfl rfl hl.1 rfl (lv_room (Nat.le_of_ble_eq_true rfl)) dL_plays_349 ⟨Nat.le_of_ble_eq_true rfl, Nat.le_of_ble_eq_true rfl⟩) hP hD hS hA [0, 1, 2, 3, 4, 5, 6, 7, 8, 9, 10, 11, 12, 13, 14, 15, 16, 17, 18, 19, 20, 21, 22, 23, 24, 25, 26, 27, 28] [29] rfl rfl rfl (by decide) (fun v_103 u_102 H locs r_101 hP hD hS => ?_)
                              refine ze_i r_101 ?_
                              have hP : va_P (dC, dI) vwCl (wPW cI cJ cZ q pw co la vo cpar fr cdee use (rnZ cpar (nC - 1) (r0Z use nC runx_42)) nC tduex_22 tlatx_23 twkx_24 nTx_21 eduex_26 elatx_41 ewkx_27 nEx_25 lenx_39 cntx_40 tinx_30 spx_28 pex_29 slpx_31 latex_32 srvx_33 hv avx_34 bdx_35 shx_36 sc lt rule nowx_20 stx_18 aslx_19 idlx_37 idnx_38 par div dee w) H := hP.sub [1, 2, 3, 4, 5, 6, 7, 8, 9, 10, 11, 12, 13, 14, 15, 16, 17, 18, 19, 20, 21, 22, 23, 24, 25, 26, 27, 28, 29, 0] (z_fm rfl)
                              have hD : va_D A (wPW cI cJ cZ q pw co la vo cpar fr cdee use (rnZ cpar (nC - 1) (r0Z use nC runx_42)) nC tduex_22 tlatx_23 twkx_24 nTx_21 eduex_26 elatx_41 ewkx_27 nEx_25 lenx_39 cntx_40 tinx_30 spx_28 pex_29 slpx_31 latex_32 srvx_33 hv avx_34 bdx_35 shx_36 sc lt rule nowx_20 stx_18 aslx_19 idlx_37 idnx_38 par div dee w) := hD.sub [1, 2, 3, 4, 5, 6, 7, 8, 9, 10, 11, 12, 13, 14, 15, 16, 17, 18, 19, 20, 21, 22, 23, 24, 25, 26, 27, 28, 29, 0] (by decide) rfl
                              refine lv_goto (tgt := 356) hx hb dL_plays_352 (by decide) ?_
                              refine zi_cgt (tgt := 363) hx hb (by omega) (by omega) dL_plays_356 (by decide) (fun c_104 => ?_) (fun c_104 => ?_)
                              · skip
                                exact absurd c_104 (by omega)
                              · skip
                                refine lv_iconst (v := iI 1) hx hb dL_plays_359 rfl ?_
                                refine lv_goto (tgt := 364) hx hb dL_plays_360 (by decide) ?_
                                refine lv_istore_n (lv' := [(3, .int (iI 1)), (21, .long (lI (((tk + ((pw 0) * (srvx_33 - srv3))) + (co stx_18)) + ((pw 0) * (latex_32 - late3))))), (20, .int (iI 1)), (18, .long (lI tk)), (17, .int (iI lf)), (16, .int (iI stx_18)), (14, .long (lI (av3 + bd3))), (12, .long (lI sp3)), (11, .int (iI ((((tin3 1) + (tin3 2)) + (tin3 3)) + (tin3 0)))), (10, .int (iI late3)), (9, .int (iI slp3)), (8, .int (iI srv3)), (7, .int (iI (llZ tdue3 tlat3 (-1) 1000000000 nT3))), (6, .int (iI st3)), (5, .int (iI now3)), (4, .int (iI k)), (0, .ref (q 0)), (1, .ref (q 29)), (2, .int (iI n))]) hx hb dL_plays_364 rfl hl (by decide) rfl (fun ls hl => ?_)
                                refine lv_iload_n hx hb dL_plays_365 rfl (lv_at hl 0 rfl) ?_
                                refine zi_feq (tgt := 485) hx hb (by decide) dL_plays_366 (by decide) (fun c_105 => ?_) (fun c_105 => ?_)
                                · skip
                                  exact absurd c_105 (by decide)
                                · skip
                                  have L391 : ∀ (H : Heap) (locs : List Loc), va_P (dC, dI) vwCl (wPW cI cJ cZ q pw co la vo cpar fr cdee use (rnZ cpar (nC - 1) (r0Z use nC runx_42)) nC tduex_22 tlatx_23 twkx_24 nTx_21 eduex_26 elatx_41 ewkx_27 nEx_25 lenx_39 cntx_40 tinx_30 spx_28 pex_29 slpx_31 latex_32 srvx_33 hv avx_34 bdx_35 shx_36 sc lt rule nowx_20 stx_18 aslx_19 idlx_37 idnx_38 par div dee w) H → va_D A (wPW cI cJ cZ q pw co la vo cpar fr cdee use (rnZ cpar (nC - 1) (r0Z use nC runx_42)) nC tduex_22 tlatx_23 twkx_24 nTx_21 eduex_26 elatx_41 ewkx_27 nEx_25 lenx_39 cntx_40 tinx_30 spx_28 pex_29 slpx_31 latex_32 srvx_33 hv avx_34 bdx_35 shx_36 sc lt rule nowx_20 stx_18 aslx_19 idlx_37 idnx_38 par div dee w) → va_S A s.heap H locs → ∀ ls : Array Slot, lv_has ls 23 [(3, .int (iI 1)), (21, .long (lI (((tk + ((pw 0) * (srvx_33 - srv3))) + (co stx_18)) + ((pw 0) * (latex_32 - late3))))), (20, .int (iI 1)), (18, .long (lI tk)), (17, .int (iI lf)), (16, .int (iI stx_18)), (14, .long (lI (av3 + bd3))), (12, .long (lI sp3)), (11, .int (iI ((((tin3 1) + (tin3 2)) + (tin3 3)) + (tin3 0)))), (10, .int (iI late3)), (9, .int (iI slp3)), (8, .int (iI srv3)), (7, .int (iI (llZ tdue3 tlat3 (-1) 1000000000 nT3))), (6, .int (iI st3)), (5, .int (iI now3)), (4, .int (iI k)), (0, .ref (q 0)), (1, .ref (q 29)), (2, .int (iI n))] → W p l e rmL_plays s m ([.ref (q 0), .ref (q 29), .int (iI n)] : List Value).toArray below meth c H locs 0 0 Q (F0 m 391 ls []) := by
                                    intro H locs hP hD hS ls hl
                                    have L429 : ∀ (H : Heap) (locs : List Loc), va_P (dC, dI) vwCl (wPW cI cJ cZ q pw co la vo cpar fr cdee use (rnZ cpar (nC - 1) (r0Z use nC runx_42)) nC tduex_22 tlatx_23 twkx_24 nTx_21 eduex_26 elatx_41 ewkx_27 nEx_25 lenx_39 cntx_40 tinx_30 spx_28 pex_29 slpx_31 latex_32 srvx_33 hv avx_34 bdx_35 shx_36 sc lt rule nowx_20 stx_18 aslx_19 idlx_37 idnx_38 par div dee w) H → va_D A (wPW cI cJ cZ q pw co la vo cpar fr cdee use (rnZ cpar (nC - 1) (r0Z use nC runx_42)) nC tduex_22 tlatx_23 twkx_24 nTx_21 eduex_26 elatx_41 ewkx_27 nEx_25 lenx_39 cntx_40 tinx_30 spx_28 pex_29 slpx_31 latex_32 srvx_33 hv avx_34 bdx_35 shx_36 sc lt rule nowx_20 stx_18 aslx_19 idlx_37 idnx_38 par div dee w) → va_S A s.heap H locs → ∀ ls : Array Slot, lv_has ls 23 [(3, .int (iI 1)), (21, .long (lI (((tk + ((pw 0) * (srvx_33 - srv3))) + (co stx_18)) + ((pw 0) * (latex_32 - late3))))), (20, .int (iI 1)), (18, .long (lI tk)), (17, .int (iI lf)), (16, .int (iI stx_18)), (14, .long (lI (av3 + bd3))), (12, .long (lI sp3)), (11, .int (iI ((((tin3 1) + (tin3 2)) + (tin3 3)) + (tin3 0)))), (10, .int (iI late3)), (9, .int (iI slp3)), (8, .int (iI srv3)), (7, .int (iI (llZ tdue3 tlat3 (-1) 1000000000 nT3))), (6, .int (iI st3)), (5, .int (iI now3)), (4, .int (iI k)), (0, .ref (q 0)), (1, .ref (q 29)), (2, .int (iI n))] → W p l e rmL_plays s m ([.ref (q 0), .ref (q 29), .int (iI n)] : List Value).toArray below meth c H locs 0 0 Q (F0 m 429 ls []) := by
                                      intro H locs hP hD hS ls hl
                                      refine lv_aload_n hx hb dL_plays_429 rfl (lv_at hl 16 rfl) ?_
                                      refine zc_pi (va_runV (As := []) (rest := []) ⟨hx, hb, hml, hown, hts⟩ (kX7_available l dC dI cI cJ cZ q pw co la vo cpar fr cdee use (rnZ cpar (nC - 1) (r0Z use nC runx_42)) nC tduex_22 tlatx_23 twkx_24 nTx_21 eduex_26 elatx_41 ewkx_27 nEx_25 lenx_39 cntx_40 tinx_30 spx_28 pex_29 slpx_31 latex_32 srvx_33 hv avx_34 bdx_35 shx_36 sc lt rule nowx_20 stx_18 aslx_19 idlx_37 idnx_38 par div dee) (cwV 0 hts gL_plays_X7_available rfl rfl rfl (by decide +kernel) ⟨Nat.le_of_ble_eq_true rfl, Nat.le_of_ble_eq_true rfl⟩) (zqV hK hP [0, 1, 2, 3, 4, 5, 6, 7, 8, 9, 10, 11, 12, 13, 14, 15, 16, 17, 18, 19, 20, 21, 22, 23, 24, 25, 26, 27, 28] rfl 0 rfl rfl) rfl rfl hl.1 rfl (lv_room (Nat.le_of_ble_eq_true rfl)) dL_plays_430 ⟨Nat.le_of_ble_eq_true rfl, Nat.le_of_ble_eq_true rfl⟩) ?_
                                      refine zi_flt (tgt := 485) hx hb (by omega) dL_plays_433 (by decide) (fun c_106 => ?_) (fun c_106 => ?_)
                                      · skip
                                        exact absurd c_106 (by omega)
                                      · skip
                                        refine lv_aload_n hx hb dL_plays_436 rfl (lv_at hl 16 rfl) ?_
                                        refine zc_pi (va_runV (As := []) (rest := []) ⟨hx, hb, hml, hown, hts⟩ (kX7_available l dC dI cI cJ cZ q pw co la vo cpar fr cdee use (rnZ cpar (nC - 1) (r0Z use nC runx_42)) nC tduex_22 tlatx_23 twkx_24 nTx_21 eduex_26 elatx_41 ewkx_27 nEx_25 lenx_39 cntx_40 tinx_30 spx_28 pex_29 slpx_31 latex_32 srvx_33 hv avx_34 bdx_35 shx_36 sc lt rule nowx_20 stx_18 aslx_19 idlx_37 idnx_38 par div dee) (cwV 0 hts gL_plays_X7_available rfl rfl rfl (by decide +kernel) ⟨Nat.le_of_ble_eq_true rfl, Nat.le_of_ble_eq_true rfl⟩) (zqV hK hP [0, 1, 2, 3, 4, 5, 6, 7, 8, 9, 10, 11, 12, 13, 14, 15, 16, 17, 18, 19, 20, 21, 22, 23, 24, 25, 26, 27, 28] rfl 0 rfl rfl) rfl rfl hl.1 rfl (lv_room (Nat.le_of_ble_eq_true rfl)) dL_plays_437 ⟨Nat.le_of_ble_eq_true rfl, Nat.le_of_ble_eq_true rfl⟩) ?_
                                        refine lv_ldc (v := iI 50000) hx hb hown (hts _ (List.mem_of_getElem? (i := 2) rfl)) dL_plays_440 ?_
                                        refine zi_cgt (tgt := 485) hx hb (by omega) (by decide) dL_plays_442 (by decide) (fun c_107 => ?_) (fun c_107 => ?_)
                                        · skip
                                          exact absurd c_107 (by omega)
                                        · skip
                                          refine lv_aload_n hx hb dL_plays_445 rfl (lv_at hl 16 rfl) ?_
                                          refine zc_pi (va_runV (As := []) (rest := []) ⟨hx, hb, hml, hown, hts⟩ (kX7_bound l dC dI cI cJ cZ q pw co la vo cpar fr cdee use (rnZ cpar (nC - 1) (r0Z use nC runx_42)) nC tduex_22 tlatx_23 twkx_24 nTx_21 eduex_26 elatx_41 ewkx_27 nEx_25 lenx_39 cntx_40 tinx_30 spx_28 pex_29 slpx_31 latex_32 srvx_33 hv avx_34 bdx_35 shx_36 sc lt rule nowx_20 stx_18 aslx_19 idlx_37 idnx_38 par div dee) (cwV 0 hts gL_plays_X7_bound rfl rfl rfl (by decide +kernel) ⟨Nat.le_of_ble_eq_true rfl, Nat.le_of_ble_eq_true rfl⟩) (zqV hK hP [0, 1, 2, 3, 4, 5, 6, 7, 8, 9, 10, 11, 12, 13, 14, 15, 16, 17, 18, 19, 20, 21, 22, 23, 24, 25, 26, 27, 28] rfl 0 rfl rfl) rfl rfl hl.1 rfl (lv_room (Nat.le_of_ble_eq_true rfl)) dL_plays_446 ⟨Nat.le_of_ble_eq_true rfl, Nat.le_of_ble_eq_true rfl⟩) ?_
                                          refine zi_flt (tgt := 485) hx hb (by omega) dL_plays_449 (by decide) (fun c_108 => ?_) (fun c_108 => ?_)
                                          · skip
                                            exact absurd c_108 (by omega)
                                          · skip
                                            refine lv_aload_n hx hb dL_plays_452 rfl (lv_at hl 16 rfl) ?_
                                            refine zc_pi (va_runV (As := []) (rest := []) ⟨hx, hb, hml, hown, hts⟩ (kX7_bound l dC dI cI cJ cZ q pw co la vo cpar fr cdee use (rnZ cpar (nC - 1) (r0Z use nC runx_42)) nC tduex_22 tlatx_23 twkx_24 nTx_21 eduex_26 elatx_41 ewkx_27 nEx_25 lenx_39 cntx_40 tinx_30 spx_28 pex_29 slpx_31 latex_32 srvx_33 hv avx_34 bdx_35 shx_36 sc lt rule nowx_20 stx_18 aslx_19 idlx_37 idnx_38 par div dee) (cwV 0 hts gL_plays_X7_bound rfl rfl rfl (by decide +kernel) ⟨Nat.le_of_ble_eq_true rfl, Nat.le_of_ble_eq_true rfl⟩) (zqV hK hP [0, 1, 2, 3, 4, 5, 6, 7, 8, 9, 10, 11, 12, 13, 14, 15, 16, 17, 18, 19, 20, 21, 22, 23, 24, 25, 26, 27, 28] rfl 0 rfl rfl) rfl rfl hl.1 rfl (lv_room (Nat.le_of_ble_eq_true rfl)) dL_plays_453 ⟨Nat.le_of_ble_eq_true rfl, Nat.le_of_ble_eq_true rfl⟩) ?_
                                            refine lv_ldc (v := iI 100000) hx hb hown (hts _ (List.mem_of_getElem? (i := 1) rfl)) dL_plays_456 ?_
                                            refine zi_cgt (tgt := 485) hx hb (by omega) (by decide) dL_plays_458 (by decide) (fun c_109 => ?_) (fun c_109 => ?_)
                                            · skip
                                              exact absurd c_109 (by omega)
                                            · skip
                                              refine lv_aload_n hx hb dL_plays_461 rfl (lv_at hl 16 rfl) ?_
                                              refine zc_pi (va_runV (As := []) (rest := []) ⟨hx, hb, hml, hown, hts⟩ (kX7_available l dC dI cI cJ cZ q pw co la vo cpar fr cdee use (rnZ cpar (nC - 1) (r0Z use nC runx_42)) nC tduex_22 tlatx_23 twkx_24 nTx_21 eduex_26 elatx_41 ewkx_27 nEx_25 lenx_39 cntx_40 tinx_30 spx_28 pex_29 slpx_31 latex_32 srvx_33 hv avx_34 bdx_35 shx_36 sc lt rule nowx_20 stx_18 aslx_19 idlx_37 idnx_38 par div dee) (cwV 0 hts gL_plays_X7_available rfl rfl rfl (by decide +kernel) ⟨Nat.le_of_ble_eq_true rfl, Nat.le_of_ble_eq_true rfl⟩) (zqV hK hP [0, 1, 2, 3, 4, 5, 6, 7, 8, 9, 10, 11, 12, 13, 14, 15, 16, 17, 18, 19, 20, 21, 22, 23, 24, 25, 26, 27, 28] rfl 0 rfl rfl) rfl rfl hl.1 rfl (lv_room (Nat.le_of_ble_eq_true rfl)) dL_plays_462 ⟨Nat.le_of_ble_eq_true rfl, Nat.le_of_ble_eq_true rfl⟩) ?_
                                              refine lv_aload_n hx hb dL_plays_465 rfl (lv_at hl 16 rfl) ?_
                                              refine zc_pi (va_runV (As := []) (rest := [.int (iI avx_34)]) ⟨hx, hb, hml, hown, hts⟩ (kX7_bound l dC dI cI cJ cZ q pw co la vo cpar fr cdee use (rnZ cpar (nC - 1) (r0Z use nC runx_42)) nC tduex_22 tlatx_23 twkx_24 nTx_21 eduex_26 elatx_41 ewkx_27 nEx_25 lenx_39 cntx_40 tinx_30 spx_28 pex_29 slpx_31 latex_32 srvx_33 hv avx_34 bdx_35 shx_36 sc lt rule nowx_20 stx_18 aslx_19 idlx_37 idnx_38 par div dee) (cwV 0 hts gL_plays_X7_bound rfl rfl rfl (by decide +kernel) ⟨Nat.le_of_ble_eq_true rfl, Nat.le_of_ble_eq_true rfl⟩) (zqV hK hP [0, 1, 2, 3, 4, 5, 6, 7, 8, 9, 10, 11, 12, 13, 14, 15, 16, 17, 18, 19, 20, 21, 22, 23, 24, 25, 26, 27, 28] rfl 0 rfl rfl) rfl rfl hl.1 rfl (lv_room (Nat.le_of_ble_eq_true rfl)) dL_plays_466 ⟨Nat.le_of_ble_eq_true rfl, Nat.le_of_ble_eq_true rfl⟩) ?_
                                              refine zi_add hx hb dL_plays_469 ?_
                                              refine zi_l hx hb (by omega) dL_plays_470 ?_
                                              refine lv_lload hx hb dL_plays_471 (lv_at hl 6 rfl) ?_
                                              refine lv_ldc2 (v := lI 1000) hx hb hown (hts _ (List.mem_of_getElem? (i := 3) rfl)) dL_plays_473 ?_
                                              refine zl_add hx hb dL_plays_476 ?_
                                              refine zl_cgt (tgt := 485) hx hb (by omega) (by omega) dL_plays_477 dL_plays_478 (by decide) (fun c_110 => ?_) (fun c_110 => ?_)
                                              · skip
                                                exact absurd c_110 (by omega)
                                              · skip
                                                refine lv_iconst (v := iI 1) hx hb dL_plays_481 rfl ?_
                                                refine lv_goto (tgt := 486) hx hb dL_plays_482 (by decide) ?_
                                                refine lv_istore_n (lv' := [(3, .int (iI 1)), (21, .long (lI (((tk + ((pw 0) * (srvx_33 - srv3))) + (co stx_18)) + ((pw 0) * (latex_32 - late3))))), (20, .int (iI 1)), (18, .long (lI tk)), (17, .int (iI lf)), (16, .int (iI stx_18)), (14, .long (lI (av3 + bd3))), (12, .long (lI sp3)), (11, .int (iI ((((tin3 1) + (tin3 2)) + (tin3 3)) + (tin3 0)))), (10, .int (iI late3)), (9, .int (iI slp3)), (8, .int (iI srv3)), (7, .int (iI (llZ tdue3 tlat3 (-1) 1000000000 nT3))), (6, .int (iI st3)), (5, .int (iI now3)), (4, .int (iI k)), (0, .ref (q 0)), (1, .ref (q 29)), (2, .int (iI n))]) hx hb dL_plays_486 rfl hl (by decide) rfl (fun ls hl => ?_)
                                                refine lv_iinc (v := iI (k + 1)) (lv' := [(4, .int (iI (k + 1))), (3, .int (iI 1)), (21, .long (lI (((tk + ((pw 0) * (srvx_33 - srv3))) + (co stx_18)) + ((pw 0) * (latex_32 - late3))))), (20, .int (iI 1)), (18, .long (lI tk)), (17, .int (iI lf)), (16, .int (iI stx_18)), (14, .long (lI (av3 + bd3))), (12, .long (lI sp3)), (11, .int (iI ((((tin3 1) + (tin3 2)) + (tin3 3)) + (tin3 0)))), (10, .int (iI late3)), (9, .int (iI slp3)), (8, .int (iI srv3)), (7, .int (iI (llZ tdue3 tlat3 (-1) 1000000000 nT3))), (6, .int (iI st3)), (5, .int (iI now3)), (0, .ref (q 0)), (1, .ref (q 29)), (2, .int (iI n))]) hx hb dL_plays_487 hl (k := 15) rfl (iI_add _ _) (by decide) rfl (fun ls hl => ?_)
                                                refine lv_goto (tgt := 5) hx hb dL_plays_490 (by decide) ?_
                                                exact ih (k + 1) stx_18 aslx_19 nowx_20 nTx_21 tduex_22 tlatx_23 twkx_24 nEx_25 eduex_26 ewkx_27 spx_28 pex_29 tinx_30 slpx_31 latex_32 srvx_33 avx_34 bdx_35 shx_36 idlx_37 idnx_38 lenx_39 cntx_40 elatx_41 (rnZ cpar (nC - 1) (r0Z use nC runx_42)) (by omega) (by rw [← Int.add_assoc]; first | exact hI9 | exact lj_run hI9 (rn_t (r0_t hrun9))) (by omega) H locs hP hD hS ls (lv_sub hl [0, 1, 16, 17, 18] rfl)
                                    refine lv_iload hx hb dL_plays_391 (lv_at hl 9 rfl) ?_
                                    refine lv_aload_n hx hb dL_plays_393 rfl (lv_at hl 16 rfl) ?_
                                    refine zc_pi (va_runV (As := []) (rest := [.int (iI late3)]) ⟨hx, hb, hml, hown, hts⟩ (kX7_lateness l dC dI cI cJ cZ q pw co la vo cpar fr cdee use (rnZ cpar (nC - 1) (r0Z use nC runx_42)) nC tduex_22 tlatx_23 twkx_24 nTx_21 eduex_26 elatx_41 ewkx_27 nEx_25 lenx_39 cntx_40 tinx_30 spx_28 pex_29 slpx_31 latex_32 srvx_33 hv avx_34 bdx_35 shx_36 sc lt rule nowx_20 stx_18 aslx_19 idlx_37 idnx_38 par div dee) (cwV 0 hts gL_plays_X7_lateness rfl rfl rfl (by decide +kernel) ⟨Nat.le_of_ble_eq_true rfl, Nat.le_of_ble_eq_true rfl⟩) (zqV hK hP [0, 1, 2, 3, 4, 5, 6, 7, 8, 9, 10, 11, 12, 13, 14, 15, 16, 17, 18, 19, 20, 21, 22, 23, 24, 25, 26, 27, 28] rfl 0 rfl rfl) rfl rfl hl.1 rfl (lv_room (Nat.le_of_ble_eq_true rfl)) dL_plays_394 ⟨Nat.le_of_ble_eq_true rfl, Nat.le_of_ble_eq_true rfl⟩) ?_
                                    refine zi_ceq (tgt := 429) hx hb (by omega) (by omega) dL_plays_397 (by decide) (fun c_111 => ?_) (fun c_111 => ?_)
                                    · skip
                                      exact L429   H locs hP hD hS ls (lv_sub hl [0, 1, 2, 3, 4, 5, 6, 7, 8, 9, 10, 11, 12, 13, 14, 15, 16, 17, 18] rfl)
                                    · skip
                                      refine lv_iload hx hb dL_plays_400 (lv_at hl 13 rfl) ?_
                                      refine zi_fle (tgt := 485) hx hb (by omega) dL_plays_402 (by decide) (fun c_112 => ?_) (fun c_112 => ?_)
                                      · skip
                                        exact absurd c_112 (by omega)
                                      · skip
                                        refine lv_aload_n hx hb dL_plays_405 rfl (lv_at hl 16 rfl) ?_
                                        refine zc_pi (va_runV (As := []) (rest := []) ⟨hx, hb, hml, hown, hts⟩ (kX7_lateness l dC dI cI cJ cZ q pw co la vo cpar fr cdee use (rnZ cpar (nC - 1) (r0Z use nC runx_42)) nC tduex_22 tlatx_23 twkx_24 nTx_21 eduex_26 elatx_41 ewkx_27 nEx_25 lenx_39 cntx_40 tinx_30 spx_28 pex_29 slpx_31 latex_32 srvx_33 hv avx_34 bdx_35 shx_36 sc lt rule nowx_20 stx_18 aslx_19 idlx_37 idnx_38 par div dee) (cwV 0 hts gL_plays_X7_lateness rfl rfl rfl (by decide +kernel) ⟨Nat.le_of_ble_eq_true rfl, Nat.le_of_ble_eq_true rfl⟩) (zqV hK hP [0, 1, 2, 3, 4, 5, 6, 7, 8, 9, 10, 11, 12, 13, 14, 15, 16, 17, 18, 19, 20, 21, 22, 23, 24, 25, 26, 27, 28] rfl 0 rfl rfl) rfl rfl hl.1 rfl (lv_room (Nat.le_of_ble_eq_true rfl)) dL_plays_406 ⟨Nat.le_of_ble_eq_true rfl, Nat.le_of_ble_eq_true rfl⟩) ?_
                                        refine lv_iload hx hb dL_plays_409 (lv_at hl 9 rfl) ?_
                                        refine lv_aload_n hx hb dL_plays_411 rfl (lv_at hl 17 rfl) ?_
                                        refine lv_bipush (v := iI 8) hx hb dL_plays_412 (by decide) ?_
                                        refine lv_iload hx hb dL_plays_414 (lv_at hl 13 rfl) ?_
                                        refine zi_add hx hb dL_plays_416 ?_
                                        refine za_ld hx hb hK hP 29 0 rfl rfl (by omega) (by omega) dL_plays_417 ?_
                                        refine ze_i (y := la st3) (by exact hw8 _ (by omega) (by omega)) ?_
                                        refine zi_add hx hb dL_plays_418 ?_
                                        refine zi_sameN (tgt := 485) hx hb (by omega) dL_plays_419 (by decide) ?_
                                        refine lv_iload hx hb dL_plays_422 (lv_at hl 12 rfl) ?_
                                        refine lv_iload hx hb dL_plays_424 (lv_at hl 14 rfl) ?_
                                        refine zi_ceq (tgt := 485) hx hb (by omega) (by omega) dL_plays_426 (by decide) (fun c_113 => ?_) (fun c_113 => ?_)
                                        · skip
                                          exact absurd c_113 (by omega)
                                        · skip
                                          exact L429   H locs hP hD hS ls (lv_sub hl [0, 1, 2, 3, 4, 5, 6, 7, 8, 9, 10, 11, 12, 13, 14, 15, 16, 17, 18] rfl)
                                  refine lv_iload hx hb dL_plays_369 (lv_at hl 13 rfl) ?_
                                  refine zi_feq (tgt := 391) hx hb (by omega) dL_plays_371 (by decide) (fun c_114 => ?_) (fun c_114 => ?_)
                                  · skip
                                    exact L391   H locs hP hD hS ls (lv_sub hl [0, 1, 2, 3, 4, 5, 6, 7, 8, 9, 10, 11, 12, 13, 14, 15, 16, 17, 18] rfl)
                                  · skip
                                    refine lv_iload hx hb dL_plays_374 (lv_at hl 2 rfl) ?_
                                    refine zi_fne (tgt := 391) hx hb (by decide) dL_plays_376 (by decide) (fun c_115 => ?_) (fun c_115 => ?_)
                                    · skip
                                      exact L391   H locs hP hD hS ls (lv_sub hl [0, 1, 2, 3, 4, 5, 6, 7, 8, 9, 10, 11, 12, 13, 14, 15, 16, 17, 18] rfl)
                                    · skip
                                      exact absurd c_115 (by decide)
                      · skip
                        exact absurd c_97 (by decide)
            refine lv_iload hx hb dL_plays_181 (lv_at hl 1 rfl) ?_
            refine zi_fle (tgt := 206) hx hb (by omega) dL_plays_183 (by decide) (fun c_116 => ?_) (fun c_116 => ?_)
            · skip
              refine lv_aload_n hx hb dL_plays_206 rfl (lv_at hl 14 rfl) ?_
              refine lv_iconst (v := iI 0) hx hb dL_plays_207 rfl ?_
              refine za_ld hx hb hK hP 29 0 rfl rfl (by omega) (by omega) dL_plays_208 ?_
              refine ze_i (y := pw 0) (by exact hw0 _ (by omega) (by omega)) ?_
              refine zi_l hx hb (by omega) dL_plays_209 ?_
              exact L210 (pw 0) (by unfold poZ; first | (rw [if_pos (by omega)]; done) | (rw [if_neg (by omega)]; done)) H locs hP hD hS ls (lv_sub hl [0, 1, 2, 3, 4, 5, 6, 7, 8, 9, 10, 11, 12, 13, 14, 15] rfl)
            · skip
              refine lv_iload hx hb dL_plays_186 (lv_at hl 0 rfl) ?_
              refine lv_aload_n hx hb dL_plays_188 rfl (lv_at hl 14 rfl) ?_
              refine lv_bipush (v := iI 8) hx hb dL_plays_189 (by decide) ?_
              refine lv_iload hx hb dL_plays_191 (lv_at hl 1 rfl) ?_
              refine zi_add hx hb dL_plays_193 ?_
              refine za_ld hx hb hK hP 29 0 rfl rfl (by omega) (by omega) dL_plays_194 ?_
              refine ze_i (y := la stx_18) (by exact hw8 _ (by omega) (by omega)) ?_
              refine zi_cle (tgt := 206) hx hb (by omega) (by omega) dL_plays_195 (by decide) (fun c_117 => ?_) (fun c_117 => ?_)
              · skip
                refine lv_aload_n hx hb dL_plays_206 rfl (lv_at hl 14 rfl) ?_
                refine lv_iconst (v := iI 0) hx hb dL_plays_207 rfl ?_
                refine za_ld hx hb hK hP 29 0 rfl rfl (by omega) (by omega) dL_plays_208 ?_
                refine ze_i (y := pw 0) (by exact hw0 _ (by omega) (by omega)) ?_
                refine zi_l hx hb (by omega) dL_plays_209 ?_
                exact L210 (pw 0) (by unfold poZ; first | (rw [if_pos (by omega)]; done) | (rw [if_neg (by omega)]; done)) H locs hP hD hS ls (lv_sub hl [0, 1, 2, 3, 4, 5, 6, 7, 8, 9, 10, 11, 12, 13, 14, 15] rfl)
              · skip
                refine lv_aload_n hx hb dL_plays_198 rfl (lv_at hl 14 rfl) ?_
                refine lv_iload hx hb dL_plays_199 (lv_at hl 1 rfl) ?_
                refine za_ld hx hb hK hP 29 0 rfl rfl (by omega) (by omega) dL_plays_201 ?_
                refine ze_i (y := pw stx_18) (by exact hw0 _ (by omega) (by omega)) ?_
                refine zi_l hx hb (by omega) dL_plays_202 ?_
                refine lv_goto (tgt := 210) hx hb dL_plays_203 (by decide) ?_
                exact L210 (pw stx_18) (by unfold poZ; first | (rw [if_pos (by omega)]; done) | (rw [if_neg (by omega)]; done)) H locs hP hD hS ls (lv_sub hl [0, 1, 2, 3, 4, 5, 6, 7, 8, 9, 10, 11, 12, 13, 14, 15] rfl)
          refine lv_aload_n hx hb dL_plays_160 rfl (lv_at hl 12 rfl) ?_
          refine zc_pi (va_runV (As := []) (rest := []) ⟨hx, hb, hml, hown, hts⟩ (kX7_nextWakeup l dC dI cI cJ cZ q pw co la vo cpar fr cdee use runx_42 nC tduex_22 tlatx_23 twkx_24 nTx_21 eduex_26 elatx_41 ewkx_27 nEx_25 lenx_39 cntx_40 tinx_30 spx_28 pex_29 slpx_31 latex_32 srvx_33 hv avx_34 bdx_35 shx_36 sc lt rule nowx_20 stx_18 aslx_19 idlx_37 idnx_38 par div dee (by first | assumption | omega | exact b2i_01 _) (by first | assumption | omega | exact b2i_01 _) (by first | assumption | omega | exact b2i_01 _) (by first | assumption | omega | exact b2i_01 _)) (cwV 0 hts gL_plays_X7_nextWakeup rfl rfl rfl (by decide +kernel) ⟨Nat.le_of_ble_eq_true rfl, Nat.le_of_ble_eq_true rfl⟩) (zqV hK hP [0, 1, 2, 3, 4, 5, 6, 7, 8, 9, 10, 11, 12, 13, 14, 15, 16, 17, 18, 19, 20, 21, 22, 23, 24, 25, 26, 27, 28] rfl 0 rfl rfl) rfl rfl hl.1 rfl (lv_room (Nat.le_of_ble_eq_true rfl)) dL_plays_161 ⟨Nat.le_of_ble_eq_true rfl, Nat.le_of_ble_eq_true rfl⟩) ?_
          refine zi_fge (tgt := 172) hx hb (by omega) dL_plays_164 (by decide) (fun c_118 => ?_) (fun c_118 => ?_)
          · skip
            refine lv_aload_n hx hb dL_plays_172 rfl (lv_at hl 12 rfl) ?_
            refine zc_pi (va_runV (As := []) (rest := []) ⟨hx, hb, hml, hown, hts⟩ (kX7_nextWakeup l dC dI cI cJ cZ q pw co la vo cpar fr cdee use runx_42 nC tduex_22 tlatx_23 twkx_24 nTx_21 eduex_26 elatx_41 ewkx_27 nEx_25 lenx_39 cntx_40 tinx_30 spx_28 pex_29 slpx_31 latex_32 srvx_33 hv avx_34 bdx_35 shx_36 sc lt rule nowx_20 stx_18 aslx_19 idlx_37 idnx_38 par div dee (by first | assumption | omega | exact b2i_01 _) (by first | assumption | omega | exact b2i_01 _) (by first | assumption | omega | exact b2i_01 _) (by first | assumption | omega | exact b2i_01 _)) (cwV 0 hts gL_plays_X7_nextWakeup rfl rfl rfl (by decide +kernel) ⟨Nat.le_of_ble_eq_true rfl, Nat.le_of_ble_eq_true rfl⟩) (zqV hK hP [0, 1, 2, 3, 4, 5, 6, 7, 8, 9, 10, 11, 12, 13, 14, 15, 16, 17, 18, 19, 20, 21, 22, 23, 24, 25, 26, 27, 28] rfl 0 rfl rfl) rfl rfl hl.1 rfl (lv_room (Nat.le_of_ble_eq_true rfl)) dL_plays_173 ⟨Nat.le_of_ble_eq_true rfl, Nat.le_of_ble_eq_true rfl⟩) ?_
            refine lv_iload hx hb dL_plays_176 (lv_at hl 10 rfl) ?_
            refine zi_sub hx hb dL_plays_178 ?_
            exact L179 ((llZ tduex_22 tlatx_23 (-1) 1000000000 nTx_21) - now3) (by omega) H locs hP hD hS ls (lv_sub hl [0, 1, 2, 3, 4, 5, 6, 7, 8, 9, 10, 11, 12, 13, 14] rfl)
          · skip
            refine lv_ldc (v := iI 100000) hx hb hown (hts _ (List.mem_of_getElem? (i := 1) rfl)) dL_plays_167 ?_
            refine lv_goto (tgt := 179) hx hb dL_plays_169 (by decide) ?_
            exact L179 100000 (by omega) H locs hP hD hS ls (lv_sub hl [0, 1, 2, 3, 4, 5, 6, 7, 8, 9, 10, 11, 12, 13, 14] rfl)
  exact L5 (_ + 1) 0 st asl now nT tdue tlat twk nE edue ewk sp pe tin slp late srv av bd sh idl idn len cnt elat run (by omega) (by rw [Int.add_zero]; exact hI) (Nat.lt_succ_self _) s.heap [] hP hD hS ls (lv_sub hl [0, 1, 2, 3, 4] rfl)
