/-! the law from its entry -/
theorem arr_known {s : State} {args : Array Value} {ty : FieldType} (h : (Cond.arrayClass ty).before args s = true) : ∃ cA : ClassId, ArrOfT s cA ty ∧ s.vm.findClass ("[" ++ ty.toString) = some cA := by
  obtain ⟨cA, kA, comp, hf, hk, hkd⟩ := Cond.arrayClass_spec h
  exact ⟨cA, fun n z => ⟨fun k h => (by cases h), kA, hk, comp, hkd⟩, hf⟩
theorem st_zN {s : State} {args : Array Value} (hts : ∀ w ∈ lw_tbl, w.before args s = true) : zN s := by
  refine ⟨fun w hw => ?_, fun w hw => ?_⟩
  · simp only [zNL, List.mem_cons, List.not_mem_nil, or_false] at hw
    rcases hw with rfl | rfl | rfl | rfl | rfl | rfl | rfl | rfl | rfl | rfl | rfl | rfl
    · exact va_Nw.of rfl (hts (Cond.fieldLinkNest "SleepPlanner" 189 "SleepPlanner$Ledger" "spent" "J" "SleepPlanner") (List.mem_of_getElem? (i := 123) (by decide +kernel)))
    · exact va_Nw.of rfl (hts (Cond.fieldLinkNest "SleepPlanner" 193 "SleepPlanner$Ledger" "ticksIn" "[I" "SleepPlanner") (List.mem_of_getElem? (i := 121) (by decide +kernel)))
    · exact va_Nw.of rfl (hts (Cond.fieldLinkNest "SleepPlanner" 200 "SleepPlanner$Ledger" "sleeps" "I" "SleepPlanner") (List.mem_of_getElem? (i := 126) (by decide +kernel)))
    · exact va_Nw.of rfl (hts (Cond.fieldLinkNest "SleepPlanner" 203 "SleepPlanner$Ledger" "lateness" "I" "SleepPlanner") (List.mem_of_getElem? (i := 128) (by decide +kernel)))
    · exact va_Nw.of rfl (hts (Cond.fieldLinkNest "SleepPlanner" 206 "SleepPlanner$Ledger" "served" "I" "SleepPlanner") (List.mem_of_getElem? (i := 130) (by decide +kernel)))
    · exact va_Nw.of rfl (hts (Cond.fieldLinkNest "SleepPlanner" 211 "SleepPlanner$Battery" "harvest" "[I" "SleepPlanner") (List.mem_of_getElem? (i := 153) (by decide +kernel)))
    · exact va_Nw.of rfl (hts (Cond.fieldLinkNest "SleepPlanner" 214 "SleepPlanner$Battery" "available" "I" "SleepPlanner") (List.mem_of_getElem? (i := 155) (by decide +kernel)))
    · exact va_Nw.of rfl (hts (Cond.fieldLinkNest "SleepPlanner" 217 "SleepPlanner$Battery" "bound" "I" "SleepPlanner") (List.mem_of_getElem? (i := 157) (by decide +kernel)))
    · exact va_Nw.of rfl (hts (Cond.fieldLinkNest "SleepPlanner" 220 "SleepPlanner$Battery" "shortTicks" "I" "SleepPlanner") (List.mem_of_getElem? (i := 159) (by decide +kernel)))
    · exact va_Nw.of rfl (hts (Cond.fieldLinkNest "SleepPlanner" 301 "SleepPlanner$IdleTimes" "count" "I" "SleepPlanner") (List.mem_of_getElem? (i := 108) (by decide +kernel)))
    · exact va_Nw.of rfl (hts (Cond.fieldLinkNest "SleepPlanner" 177 "SleepPlanner$Jobs" "count" "I" "SleepPlanner") (List.mem_of_getElem? (i := 90) (by decide +kernel)))
    · exact va_Nw.of rfl (hts (Cond.fieldLinkNest "SleepPlanner$Plans" 24 "SleepPlanner$Jobs" "count" "I" "SleepPlanner") (List.mem_of_getElem? (i := 89) (by decide +kernel)))
  · simp only [zML, List.mem_cons, List.not_mem_nil, or_false] at hw
    rcases hw with rfl | rfl | rfl | rfl | rfl | rfl | rfl
    · exact va_Nw.of rfl (hts (Cond.methodLinkNest "SleepPlanner$Battery" 27 yX7_read "SleepPlanner") (List.mem_of_getElem? (i := 566) (by decide +kernel)))
    · exact va_Nw.of rfl (hts (Cond.methodLinkNest "SleepPlanner$Clocks" 36 yX7_read "SleepPlanner") (List.mem_of_getElem? (i := 413) (by decide +kernel)))
    · exact va_Nw.of rfl (hts (Cond.methodLinkNest "SleepPlanner$Clocks" 44 yX7_exchange "SleepPlanner") (List.mem_of_getElem? (i := 429) (by decide +kernel)))
    · exact va_Nw.of rfl (hts (Cond.methodLinkNest "SleepPlanner$Ledger" 32 yX7_read "SleepPlanner") (List.mem_of_getElem? (i := 549) (by decide +kernel)))
    · exact va_Nw.of rfl (hts (Cond.methodLinkNest "SleepPlanner$Ledger" 36 yX7_exchange "SleepPlanner") (List.mem_of_getElem? (i := 550) (by decide +kernel)))
    · exact va_Nw.of rfl (hts (Cond.methodLinkNest "SleepPlanner$States" 21 yX7_exchange "SleepPlanner") (List.mem_of_getElem? (i := 354) (by decide +kernel)))
    · exact va_Nw.of rfl (hts (Cond.methodLinkNest "SleepPlanner$States" 25 yX7_read "SleepPlanner") (List.mem_of_getElem? (i := 327) (by decide +kernel)))
theorem st_zY {s : State} {args : Array Value} (hn : ∀ w ∈ flatC (Jvm.Cond.and given_1 narrow_1), w.before args s = true) : zY s :=
  ⟨va_Nc.of (hn (Cond.not (.castable "java/lang/IllegalArgumentException" "java/lang/IndexOutOfBoundsException")) (List.mem_of_getElem? (i := 14) (by decide +kernel))), va_Nc.of (hn (Cond.not (.castable "java/lang/IllegalStateException" "java/lang/IndexOutOfBoundsException")) (List.mem_of_getElem? (i := 15) (by decide +kernel))), va_Nc.of (hn (Cond.not (.castable "java/lang/IllegalStateException" "java/lang/IllegalArgumentException")) (List.mem_of_getElem? (i := 25) (by decide +kernel)))⟩
theorem st_zX {s : State} {args : Array Value} (hts : ∀ w ∈ lw_tbl, w.before args s = true) (hn : ∀ w ∈ flatC (Jvm.Cond.and given_1 narrow_1), w.before args s = true) : zX (fun q9 : Nat => s.heap.size ≤ q9) s := by
  refine ⟨⟨fun X hX => ?_, fun x hx => ?_⟩, fun q hq => ?_, vx_Zqof (hts (Cond.laysStatic "java/lang/Throwable" "UNASSIGNED_STACK" "[Ljava/lang/StackTraceElement;") (List.mem_of_getElem? (i := 274) (by decide +kernel))) (hts (Cond.initialized "java/lang/Throwable") (List.mem_of_getElem? (i := 22) (by decide +kernel))) (hn (Cond.isRef (.static "java/lang/Throwable" "UNASSIGNED_STACK" "[Ljava/lang/StackTraceElement;")) (List.mem_of_getElem? (i := 4) (by decide +kernel))) (fun a h => Nat.not_le.mpr h), vx_Zqof (hts (Cond.laysStatic "java/lang/Throwable" "SUPPRESSED_SENTINEL" "Ljava/util/List;") (List.mem_of_getElem? (i := 276) (by decide +kernel))) (hts (Cond.initialized "java/lang/Throwable") (List.mem_of_getElem? (i := 22) (by decide +kernel))) (hn (Cond.isRef (.static "java/lang/Throwable" "SUPPRESSED_SENTINEL" "Ljava/util/List;")) (List.mem_of_getElem? (i := 5) (by decide +kernel))) (fun a h => Nat.not_le.mpr h)⟩
  · simp only [zXc, List.mem_cons, List.not_mem_nil, or_false] at hX
    rcases hX with rfl | rfl | rfl
    · exact va_Nw.of rfl (hts (Cond.castable "java/lang/IllegalArgumentException" "java/lang/IllegalArgumentException") (List.mem_of_getElem? (i := 249) (by decide +kernel)))
    · exact va_Nw.of rfl (hts (Cond.castable "java/lang/IndexOutOfBoundsException" "java/lang/IndexOutOfBoundsException") (List.mem_of_getElem? (i := 373) (by decide +kernel)))
    · exact va_Nw.of rfl (hts (Cond.castable "java/lang/IllegalStateException" "java/lang/IllegalStateException") (List.mem_of_getElem? (i := 394) (by decide +kernel)))
  · simp only [zXd, List.mem_cons, List.not_mem_nil, or_false] at hx
    rcases hx with rfl | rfl | rfl
    · exact va_Nw.of rfl (hts (Cond.declares ⟨"java/lang/RuntimeException", "<init>", "(Ljava/lang/String;)V"⟩) (List.mem_of_getElem? (i := 251) (by decide +kernel)))
    · exact va_Nw.of rfl (hts (Cond.declares ⟨"java/lang/Exception", "<init>", "(Ljava/lang/String;)V"⟩) (List.mem_of_getElem? (i := 253) (by decide +kernel)))
    · exact va_Nw.of rfl (hts (Cond.declares ⟨"java/lang/Throwable", "<init>", "(Ljava/lang/String;)V"⟩) (List.mem_of_getElem? (i := 255) (by decide +kernel)))
  · simp only [zXs, List.mem_cons, List.not_mem_nil, or_false] at hq
    rcases hq with rfl | rfl | rfl | rfl | rfl | rfl | rfl | rfl | rfl | rfl | rfl | rfl | rfl | rfl | rfl | rfl | rfl | rfl
    · obtain ⟨sa, _, _, _, q1, -⟩ := Cond.exactly_spec (args := args) (first := s) (o := none) (s := s) (idx := []) (t := .string "SleepPlanner" 84) (cls := "java/lang/String") (hn (Cond.exactly (.string "SleepPlanner" 84) "java/lang/String") (List.mem_of_getElem? (i := 651) (by decide +kernel)))
      exact ⟨sa, vk_R.of (hts (Cond.stringRef "SleepPlanner" 84 "state, power, cost or latency is out of range") (List.mem_of_getElem? (i := 682) (by decide +kernel))) q1⟩
    · obtain ⟨sa, _, _, _, q1, -⟩ := Cond.exactly_spec (args := args) (first := s) (o := none) (s := s) (idx := []) (t := .string "SleepPlanner" 96) (cls := "java/lang/String") (hn (Cond.exactly (.string "SleepPlanner" 96) "java/lang/String") (List.mem_of_getElem? (i := 36) (by decide +kernel)))
      exact ⟨sa, vk_R.of (hts (Cond.stringRef "SleepPlanner" 96 "power is out of range") (List.mem_of_getElem? (i := 288) (by decide +kernel))) q1⟩
    · obtain ⟨sa, _, _, _, q1, -⟩ := Cond.exactly_spec (args := args) (first := s) (o := none) (s := s) (idx := []) (t := .string "SleepPlanner" 102) (cls := "java/lang/String") (hn (Cond.exactly (.string "SleepPlanner" 102) "java/lang/String") (List.mem_of_getElem? (i := 61) (by decide +kernel)))
      exact ⟨sa, vk_R.of (hts (Cond.stringRef "SleepPlanner" 102 "driver or state is out of range") (List.mem_of_getElem? (i := 361) (by decide +kernel))) q1⟩
    · obtain ⟨sa, _, _, _, q1, -⟩ := Cond.exactly_spec (args := args) (first := s) (o := none) (s := s) (idx := []) (t := .string "SleepPlanner" 114) (cls := "java/lang/String") (hn (Cond.exactly (.string "SleepPlanner" 114) "java/lang/String") (List.mem_of_getElem? (i := 97) (by decide +kernel)))
      exact ⟨sa, vk_R.of (hts (Cond.stringRef "SleepPlanner" 114 "there is no clock parent") (List.mem_of_getElem? (i := 380) (by decide +kernel))) q1⟩
    · obtain ⟨sa, _, _, _, q1, -⟩ := Cond.exactly_spec (args := args) (first := s) (o := none) (s := s) (idx := []) (t := .string "SleepPlanner" 117) (cls := "java/lang/String") (hn (Cond.exactly (.string "SleepPlanner" 117) "java/lang/String") (List.mem_of_getElem? (i := 127) (by decide +kernel)))
      exact ⟨sa, vk_R.of (hts (Cond.stringRef "SleepPlanner" 117 "divider or deepest is out of range") (List.mem_of_getElem? (i := 387) (by decide +kernel))) q1⟩
    · obtain ⟨sa, _, _, _, q1, -⟩ := Cond.exactly_spec (args := args) (first := s) (o := none) (s := s) (idx := []) (t := .string "SleepPlanner" 125) (cls := "java/lang/String") (hn (Cond.exactly (.string "SleepPlanner" 125) "java/lang/String") (List.mem_of_getElem? (i := 168) (by decide +kernel)))
      exact ⟨sa, vk_R.of (hts (Cond.stringRef "SleepPlanner" 125 "there are 8 clocks") (List.mem_of_getElem? (i := 401) (by decide +kernel))) q1⟩
    · obtain ⟨sa, _, _, _, q1, -⟩ := Cond.exactly_spec (args := args) (first := s) (o := none) (s := s) (idx := []) (t := .string "SleepPlanner" 132) (cls := "java/lang/String") (hn (Cond.exactly (.string "SleepPlanner" 132) "java/lang/String") (List.mem_of_getElem? (i := 194) (by decide +kernel)))
      exact ⟨sa, vk_R.of (hts (Cond.stringRef "SleepPlanner" 132 "there is no such clock") (List.mem_of_getElem? (i := 418) (by decide +kernel))) q1⟩
    · obtain ⟨sa, _, _, _, q1, -⟩ := Cond.exactly_spec (args := args) (first := s) (o := none) (s := s) (idx := []) (t := .string "SleepPlanner" 137) (cls := "java/lang/String") (hn (Cond.exactly (.string "SleepPlanner" 137) "java/lang/String") (List.mem_of_getElem? (i := 225) (by decide +kernel)))
      exact ⟨sa, vk_R.of (hts (Cond.stringRef "SleepPlanner" 137 "the clock is used 9 times") (List.mem_of_getElem? (i := 423) (by decide +kernel))) q1⟩
    · obtain ⟨sa, _, _, _, q1, -⟩ := Cond.exactly_spec (args := args) (first := s) (o := none) (s := s) (idx := []) (t := .string "SleepPlanner" 143) (cls := "java/lang/String") (hn (Cond.exactly (.string "SleepPlanner" 143) "java/lang/String") (List.mem_of_getElem? (i := 260) (by decide +kernel)))
      exact ⟨sa, vk_R.of (hts (Cond.stringRef "SleepPlanner" 143 "the clock is not used") (List.mem_of_getElem? (i := 434) (by decide +kernel))) q1⟩
    · obtain ⟨sa, _, _, _, q1, -⟩ := Cond.exactly_spec (args := args) (first := s) (o := none) (s := s) (idx := []) (t := .string "SleepPlanner" 160) (cls := "java/lang/String") (hn (Cond.exactly (.string "SleepPlanner" 160) "java/lang/String") (List.mem_of_getElem? (i := 570) (by decide +kernel)))
      exact ⟨sa, vk_R.of (hts (Cond.stringRef "SleepPlanner" 160 "state is out of range") (List.mem_of_getElem? (i := 640) (by decide +kernel))) q1⟩
    · obtain ⟨sa, _, _, _, q1, -⟩ := Cond.exactly_spec (args := args) (first := s) (o := none) (s := s) (idx := []) (t := .string "SleepPlanner" 165) (cls := "java/lang/String") (hn (Cond.exactly (.string "SleepPlanner" 165) "java/lang/String") (List.mem_of_getElem? (i := 292) (by decide +kernel)))
      exact ⟨sa, vk_R.of (hts (Cond.stringRef "SleepPlanner" 165 "due, slack or work is out of range") (List.mem_of_getElem? (i := 439) (by decide +kernel))) q1⟩
    · obtain ⟨sa, _, _, _, q1, -⟩ := Cond.exactly_spec (args := args) (first := s) (o := none) (s := s) (idx := []) (t := .string "SleepPlanner" 168) (cls := "java/lang/String") (hn (Cond.exactly (.string "SleepPlanner" 168) "java/lang/String") (List.mem_of_getElem? (i := 338) (by decide +kernel)))
      exact ⟨sa, vk_R.of (hts (Cond.stringRef "SleepPlanner" 168 "there are 12 timers") (List.mem_of_getElem? (i := 444) (by decide +kernel))) q1⟩
    · obtain ⟨sa, _, _, _, q1, -⟩ := Cond.exactly_spec (args := args) (first := s) (o := none) (s := s) (idx := []) (t := .string "SleepPlanner" 171) (cls := "java/lang/String") (hn (Cond.exactly (.string "SleepPlanner" 171) "java/lang/String") (List.mem_of_getElem? (i := 370) (by decide +kernel)))
      exact ⟨sa, vk_R.of (hts (Cond.stringRef "SleepPlanner" 171 "tick or work is out of range") (List.mem_of_getElem? (i := 454) (by decide +kernel))) q1⟩
    · obtain ⟨sa, _, _, _, q1, -⟩ := Cond.exactly_spec (args := args) (first := s) (o := none) (s := s) (idx := []) (t := .string "SleepPlanner" 173) (cls := "java/lang/String") (hn (Cond.exactly (.string "SleepPlanner" 173) "java/lang/String") (List.mem_of_getElem? (i := 412) (by decide +kernel)))
      exact ⟨sa, vk_R.of (hts (Cond.stringRef "SleepPlanner" 173 "12 events are to come") (List.mem_of_getElem? (i := 455) (by decide +kernel))) q1⟩
    · obtain ⟨sa, _, _, _, q1, -⟩ := Cond.exactly_spec (args := args) (first := s) (o := none) (s := s) (idx := []) (t := .string "SleepPlanner" 175) (cls := "java/lang/String") (hn (Cond.exactly (.string "SleepPlanner" 175) "java/lang/String") (List.mem_of_getElem? (i := 448) (by decide +kernel)))
      exact ⟨sa, vk_R.of (hts (Cond.stringRef "SleepPlanner" 175 "rule is out of range") (List.mem_of_getElem? (i := 460) (by decide +kernel))) q1⟩
    · obtain ⟨sa, _, _, _, q1, -⟩ := Cond.exactly_spec (args := args) (first := s) (o := none) (s := s) (idx := []) (t := .string "SleepPlanner" 184) (cls := "java/lang/String") (hn (Cond.exactly (.string "SleepPlanner" 184) "java/lang/String") (List.mem_of_getElem? (i := 484) (by decide +kernel)))
      exact ⟨sa, vk_R.of (hts (Cond.stringRef "SleepPlanner" 184 "ticks is out of range") (List.mem_of_getElem? (i := 465) (by decide +kernel))) q1⟩
    · obtain ⟨sa, _, _, _, q1, -⟩ := Cond.exactly_spec (args := args) (first := s) (o := none) (s := s) (idx := []) (t := .string "SleepPlanner" 209) (cls := "java/lang/String") (hn (Cond.exactly (.string "SleepPlanner" 209) "java/lang/String") (List.mem_of_getElem? (i := 522) (by decide +kernel)))
      exact ⟨sa, vk_R.of (hts (Cond.stringRef "SleepPlanner" 209 "hour or energy is out of range") (List.mem_of_getElem? (i := 586) (by decide +kernel))) q1⟩
    · obtain ⟨sa, _, _, _, q1, -⟩ := Cond.exactly_spec (args := args) (first := s) (o := none) (s := s) (idx := []) (t := .string "SleepPlanner" 223) (cls := "java/lang/String") (hn (Cond.exactly (.string "SleepPlanner" 223) "java/lang/String") (List.mem_of_getElem? (i := 610) (by decide +kernel)))
      exact ⟨sa, vk_R.of (hts (Cond.stringRef "SleepPlanner" 223 "until is out of range") (List.mem_of_getElem? (i := 652) (by decide +kernel))) q1⟩
theorem st_zK {s : State} {args : Array Value} (hts : ∀ w ∈ lw_tbl, w.before args s = true) : ∃ (dC : Nat → ClassId) (dI : Nat → Nat → Nat) (cI cJ cZ : ClassId), zK (dC, dI) (zT cI cJ cZ) s := by
  obtain ⟨c0, iS0, hKn0⟩ := u_known (C := RX0) (T := TX0) (N := 4) (n := 4) hts inX0 (hts (Cond.instantiable RX0 4) (List.mem_of_getElem? (i := 145) (by decide +kernel)))
  obtain ⟨c1, iS1, hKn1⟩ := u_known (C := RX1) (T := TX1) (N := 6) (n := 6) hts inX1 (hts (Cond.instantiable RX1 6) (List.mem_of_getElem? (i := 54) (by decide +kernel)))
  obtain ⟨c2, iS2, hKn2⟩ := u_known (C := RX2) (T := TX2) (N := 2) (n := 2) hts inX2 (hts (Cond.instantiable RX2 2) (List.mem_of_getElem? (i := 101) (by decide +kernel)))
  obtain ⟨c3, iS3, hKn3⟩ := u_known (C := RX3) (T := TX3) (N := 4) (n := 4) hts inX3 (hts (Cond.instantiable RX3 4) (List.mem_of_getElem? (i := 80) (by decide +kernel)))
  obtain ⟨c4, iS4, hKn4⟩ := u_known (C := RX4) (T := TX4) (N := 6) (n := 6) hts inX4 (hts (Cond.instantiable RX4 6) (List.mem_of_getElem? (i := 115) (by decide +kernel)))
  obtain ⟨c5, iS5, hKn5⟩ := u_known (C := RX5) (T := TX5) (N := 2) (n := 2) hts inX5 (hts (Cond.instantiable RX5 2) (List.mem_of_getElem? (i := 170) (by decide +kernel)))
  obtain ⟨c6, iS6, hKn6⟩ := u_known (C := RX6) (T := TX6) (N := 3) (n := 3) hts inX6 (hts (Cond.instantiable RX6 3) (List.mem_of_getElem? (i := 37) (by decide +kernel)))
  obtain ⟨c7, iS7, hKn7⟩ := u_known (C := RX7) (T := TX7) (N := 13) (n := 13) hts inX7 (hts (Cond.instantiable RX7 13) (List.mem_of_getElem? (i := 29) (by decide +kernel)))
  obtain ⟨cI, hI1, hI2⟩ := arr_known (hts (Cond.arrayClass .int) (List.mem_of_getElem? (i := 52) (by decide +kernel)))
  obtain ⟨cJ, hJ1, hJ2⟩ := arr_known (hts (Cond.arrayClass .long) (List.mem_of_getElem? (i := 182) (by decide +kernel)))
  obtain ⟨cZ, hZ1, hZ2⟩ := arr_known (hts (Cond.arrayClass .boolean) (List.mem_of_getElem? (i := 78) (by decide +kernel)))
  refine ⟨fun k => [c0, c1, c2, c3, c4, c5, c6, c7].getD k c0, fun k => [iS0, iS1, iS2, iS3, iS4, iS5, iS6, iS7].getD k iS0, cI, cJ, cZ, ⟨fun k q hq => ?_, fun k q h => ?_⟩, st_zN hts⟩
  · match k, hq with
    | 0, hq => cases hq; exact hKn0
    | 1, hq => cases hq; exact hKn1
    | 2, hq => cases hq; exact hKn2
    | 3, hq => cases hq; exact hKn3
    | 4, hq => cases hq; exact hKn4
    | 5, hq => cases hq; exact hKn5
    | 6, hq => cases hq; exact hKn6
    | 7, hq => cases hq; exact hKn7
    | k + 8, hq => simp [vwCl] at hq
  · match k, h with
    | 0, h => cases h; exact ⟨hI1, hI2⟩
    | 1, h => cases h; exact ⟨hJ1, hJ2⟩
    | 2, h => cases h; exact ⟨hZ1, hZ2⟩
    | k + 3, h => simp [zT] at h
theorem rg_0 {n M : Int} (h : 0 ≤ M) : rgZ z0 n M := fun _ _ _ => ⟨Int.le_refl 0, h⟩
theorem lj_0 : LJ 0 (uZ (uZ (uZ (uZ z0 0 100) 1 40) 2 10) 3 1) (uZ (uZ (uZ (uZ z0 0 0) 1 20) 2 150) 3 600) (uZ (uZ (uZ (uZ z0 0 0) 1 1) 2 3) 3 8) (uZ (uZ (uZ (uZ (uZ (uZ z0 0 3) 1 3) 2 3) 3 3) 4 3) 5 3) (uZ z0 0 3) z0 z0 1 z0 z0 z0 0 z0 z0 z0 0 z0 0 z0 0 0 0 0 0 z0 50000 100000 0 1 0 0 0 z0 0 z0 (uZ (uZ (uZ (uZ (uZ (uZ (uZ (uZ (uZ (uZ z0 0 100) 1 40) 2 10) 3 1) 5 20) 6 150) 7 600) 9 1) 10 3) 11 8) := by
  refine ⟨⟨(rgZ_u (rgZ_u (rgZ_u (rgZ_u (rg_0 (by omega)) (by omega)) (by omega)) (by omega)) (by omega)), (rgZ_u (rgZ_u (rgZ_u (rgZ_u (rg_0 (by omega)) (by omega)) (by omega)) (by omega)) (by omega)), (rgZ_u (rgZ_u (rgZ_u (rgZ_u (rg_0 (by omega)) (by omega)) (by omega)) (by omega)) (by omega)), by decide, by decide⟩, ⟨rfl, rfl, rg_0 (by omega), fun _ _ _ => Or.inl rfl, (rgZ_u (rg_0 (by omega)) (by omega)), (rgZ_u (rgZ_u (rgZ_u (rgZ_u (rgZ_u (rgZ_u (rg_0 (by omega)) (by omega)) (by omega)) (by omega)) (by omega)) (by omega)) (by omega)), by decide, rg_0 (by omega)⟩, ⟨by omega, rg_0 (by omega), ⟨Int.le_refl 0, rfl, rg_0 (by omega), rg_0 (by omega), fun j h1 h2 => absurd h2 (by omega)⟩, rg_0 (by omega)⟩, ⟨by omega, by omega, by omega, by omega, rg_0 (by omega), rg_0 (by omega), rg_0 (by omega), by omega, rg_0 (by omega), rg_0 (by omega), ⟨by omega, by omega, fun _ => rfl⟩, by omega, by omega, fun k h1 h2 => absurd h2 (by omega), fun k h1 h2 => absurd h2 (by omega), ⟨by omega, fun _ => by omega, fun h => absurd rfl h⟩, rg_0 (by omega)⟩, by omega, ⟨fun k h1 h2 => ?_, fun k h1 h2 => ?_, fun k h1 h2 => ?_⟩⟩
  · rcases (show k = 0 ∨ k = 1 ∨ k = 2 ∨ k = 3 by omega) with rfl | rfl | rfl | rfl <;> decide
  · rcases (show k = 0 ∨ k = 1 ∨ k = 2 ∨ k = 3 by omega) with rfl | rfl | rfl | rfl <;> decide
  · rcases (show k = 0 ∨ k = 1 ∨ k = 2 ∨ k = 3 by omega) with rfl | rfl | rfl | rfl <;> decide
