section
-- ===== PART A: goes FIRST, ahead of the names: the tables' words, and 'selects' of the private methods out of them =====
/-- a private method of a class that the tables say can be made, by its rows of tables_1 -/
def lw_okq (q : MethodName × Nat) : Prop := (q.1.cls ≠ "java/lang/invoke/MethodHandle" ∧ q.1.cls ≠ "java/lang/invoke/VarHandle") ∧ Cond.instantiable q.1.cls q.2 ∈ tables_1 ∧ Cond.privateMethod q.1 ∈ tables_1 ∧ Cond.instanceMethod q.1 ∈ tables_1
theorem lw_p0 : lw_okq (⟨"SleepPlanner$Clocks", "markRunning", "()V"⟩, 6) := ⟨⟨by decide +kernel, by decide +kernel⟩, List.mem_of_getElem? (i := 43) (by decide +kernel), List.mem_of_getElem? (i := 221) (by decide +kernel), List.mem_of_getElem? (i := 222) (by decide +kernel)⟩
theorem lw_p1 : lw_okq (⟨"java/lang/Throwable", "fillInStackTrace", "(I)Ljava/lang/Throwable;"⟩, 6) := ⟨⟨by decide +kernel, by decide +kernel⟩, List.mem_of_getElem? (i := 331) (by decide +kernel), List.mem_of_getElem? (i := 329) (by decide +kernel), List.mem_of_getElem? (i := 330) (by decide +kernel)⟩
theorem lw_p2 : lw_okq (⟨"SleepPlanner", "wakeForCall", "()V"⟩, 13) := ⟨⟨by decide +kernel, by decide +kernel⟩, List.mem_of_getElem? (i := 18) (by decide +kernel), List.mem_of_getElem? (i := 361) (by decide +kernel), List.mem_of_getElem? (i := 362) (by decide +kernel)⟩
theorem lw_p3 : lw_okq (⟨"SleepPlanner", "endIdleTime", "()V"⟩, 13) := ⟨⟨by decide +kernel, by decide +kernel⟩, List.mem_of_getElem? (i := 18) (by decide +kernel), List.mem_of_getElem? (i := 384) (by decide +kernel), List.mem_of_getElem? (i := 385) (by decide +kernel)⟩
theorem lw_p4 : lw_okq (⟨"SleepPlanner", "playTick", "()V"⟩, 13) := ⟨⟨by decide +kernel, by decide +kernel⟩, List.mem_of_getElem? (i := 18) (by decide +kernel), List.mem_of_getElem? (i := 579) (by decide +kernel), List.mem_of_getElem? (i := 580) (by decide +kernel)⟩
theorem lw_p5 : lw_okq (⟨"SleepPlanner", "wakeIfCalledFor", "()V"⟩, 13) := ⟨⟨by decide +kernel, by decide +kernel⟩, List.mem_of_getElem? (i := 18) (by decide +kernel), List.mem_of_getElem? (i := 583) (by decide +kernel), List.mem_of_getElem? (i := 584) (by decide +kernel)⟩
theorem lw_p6 : lw_okq (⟨"SleepPlanner", "ticksToWakeup", "()I"⟩, 13) := ⟨⟨by decide +kernel, by decide +kernel⟩, List.mem_of_getElem? (i := 18) (by decide +kernel), List.mem_of_getElem? (i := 587) (by decide +kernel), List.mem_of_getElem? (i := 588) (by decide +kernel)⟩
theorem lw_p7 : lw_okq (⟨"SleepPlanner", "serveWhatIsDue", "()V"⟩, 13) := ⟨⟨by decide +kernel, by decide +kernel⟩, List.mem_of_getElem? (i := 18) (by decide +kernel), List.mem_of_getElem? (i := 597) (by decide +kernel), List.mem_of_getElem? (i := 598) (by decide +kernel)⟩
theorem lw_p8 : lw_okq (⟨"SleepPlanner", "chooseState", "()I"⟩, 13) := ⟨⟨by decide +kernel, by decide +kernel⟩, List.mem_of_getElem? (i := 18) (by decide +kernel), List.mem_of_getElem? (i := 605) (by decide +kernel), List.mem_of_getElem? (i := 606) (by decide +kernel)⟩
theorem lw_p9 : lw_okq (⟨"SleepPlanner", "fallAsleep", "(I)V"⟩, 13) := ⟨⟨by decide +kernel, by decide +kernel⟩, List.mem_of_getElem? (i := 18) (by decide +kernel), List.mem_of_getElem? (i := 624) (by decide +kernel), List.mem_of_getElem? (i := 625) (by decide +kernel)⟩
theorem lw_p10 : lw_okq (⟨"SleepPlanner", "powerOfTick", "()I"⟩, 13) := ⟨⟨by decide +kernel, by decide +kernel⟩, List.mem_of_getElem? (i := 18) (by decide +kernel), List.mem_of_getElem? (i := 635) (by decide +kernel), List.mem_of_getElem? (i := 636) (by decide +kernel)⟩
theorem lw_p11 : lw_okq (⟨"SleepPlanner$Battery", "balance", "()V"⟩, 4) := ⟨⟨by decide +kernel, by decide +kernel⟩, List.mem_of_getElem? (i := 134) (by decide +kernel), List.mem_of_getElem? (i := 658) (by decide +kernel), List.mem_of_getElem? (i := 659) (by decide +kernel)⟩
theorem lw_p12 : lw_okq (⟨"SleepPlanner$Plans", "leastSum", "(LSleepPlanner$Jobs;III)J"⟩, 2) := ⟨⟨by decide +kernel, by decide +kernel⟩, List.mem_of_getElem? (i := 159) (by decide +kernel), List.mem_of_getElem? (i := 706) (by decide +kernel), List.mem_of_getElem? (i := 707) (by decide +kernel)⟩
theorem lw_p13 : lw_okq (⟨"SleepPlanner$Plans", "earliestBefore", "(LSleepPlanner$Jobs;III)I"⟩, 2) := ⟨⟨by decide +kernel, by decide +kernel⟩, List.mem_of_getElem? (i := 159) (by decide +kernel), List.mem_of_getElem? (i := 710) (by decide +kernel), List.mem_of_getElem? (i := 711) (by decide +kernel)⟩
theorem lw_p14 : lw_okq (⟨"SleepPlanner$Plans", "leastSumTo", "(II)J"⟩, 2) := ⟨⟨by decide +kernel, by decide +kernel⟩, List.mem_of_getElem? (i := 159) (by decide +kernel), List.mem_of_getElem? (i := 722) (by decide +kernel), List.mem_of_getElem? (i := 723) (by decide +kernel)⟩
theorem lw_p15 : lw_okq (⟨"SleepPlannerModel", "asks", "(Z)Z"⟩, 36) := ⟨⟨by decide +kernel, by decide +kernel⟩, List.mem_of_getElem? (i := 765) (by decide +kernel), List.mem_of_getElem? (i := 893) (by decide +kernel), List.mem_of_getElem? (i := 894) (by decide +kernel)⟩
def lw_privs_1 : List (MethodName × Nat) := [(⟨"SleepPlanner$Clocks", "markRunning", "()V"⟩, 6), (⟨"java/lang/Throwable", "fillInStackTrace", "(I)Ljava/lang/Throwable;"⟩, 6), (⟨"SleepPlanner", "wakeForCall", "()V"⟩, 13), (⟨"SleepPlanner", "endIdleTime", "()V"⟩, 13), (⟨"SleepPlanner", "playTick", "()V"⟩, 13), (⟨"SleepPlanner", "wakeIfCalledFor", "()V"⟩, 13), (⟨"SleepPlanner", "ticksToWakeup", "()I"⟩, 13), (⟨"SleepPlanner", "serveWhatIsDue", "()V"⟩, 13), (⟨"SleepPlanner", "chooseState", "()I"⟩, 13), (⟨"SleepPlanner", "fallAsleep", "(I)V"⟩, 13), (⟨"SleepPlanner", "powerOfTick", "()I"⟩, 13), (⟨"SleepPlanner$Battery", "balance", "()V"⟩, 4), (⟨"SleepPlanner$Plans", "leastSum", "(LSleepPlanner$Jobs;III)J"⟩, 2), (⟨"SleepPlanner$Plans", "earliestBefore", "(LSleepPlanner$Jobs;III)I"⟩, 2), (⟨"SleepPlanner$Plans", "leastSumTo", "(II)J"⟩, 2), (⟨"SleepPlannerModel", "asks", "(Z)Z"⟩, 36)]
theorem lw_r1 : ∀ q ∈ lw_privs_1, lw_okq q := List.forall_mem_cons.mpr ⟨lw_p0, List.forall_mem_cons.mpr ⟨lw_p1, List.forall_mem_cons.mpr ⟨lw_p2, List.forall_mem_cons.mpr ⟨lw_p3, List.forall_mem_cons.mpr ⟨lw_p4, List.forall_mem_cons.mpr ⟨lw_p5, List.forall_mem_cons.mpr ⟨lw_p6, List.forall_mem_cons.mpr ⟨lw_p7, List.forall_mem_cons.mpr ⟨lw_p8, List.forall_mem_cons.mpr ⟨lw_p9, List.forall_mem_cons.mpr ⟨lw_p10, List.forall_mem_cons.mpr ⟨lw_p11, List.forall_mem_cons.mpr ⟨lw_p12, List.forall_mem_cons.mpr ⟨lw_p13, List.forall_mem_cons.mpr ⟨lw_p14, List.forall_mem_cons.mpr ⟨lw_p15, fun _ h => absurd h List.not_mem_nil⟩⟩⟩⟩⟩⟩⟩⟩⟩⟩⟩⟩⟩⟩⟩⟩
theorem lw_p16 : lw_okq (⟨"SleepPlannerModel", "stirs", "()V"⟩, 36) := ⟨⟨by decide +kernel, by decide +kernel⟩, List.mem_of_getElem? (i := 765) (by decide +kernel), List.mem_of_getElem? (i := 897) (by decide +kernel), List.mem_of_getElem? (i := 898) (by decide +kernel)⟩
theorem lw_p17 : lw_okq (⟨"SleepPlannerModel", "spends", "(J)V"⟩, 36) := ⟨⟨by decide +kernel, by decide +kernel⟩, List.mem_of_getElem? (i := 765) (by decide +kernel), List.mem_of_getElem? (i := 901) (by decide +kernel), List.mem_of_getElem? (i := 902) (by decide +kernel)⟩
theorem lw_p18 : lw_okq (⟨"SleepPlannerModel", "wakes", "()V"⟩, 36) := ⟨⟨by decide +kernel, by decide +kernel⟩, List.mem_of_getElem? (i := 765) (by decide +kernel), List.mem_of_getElem? (i := 905) (by decide +kernel), List.mem_of_getElem? (i := 906) (by decide +kernel)⟩
theorem lw_p19 : lw_okq (⟨"SleepPlannerModel", "isClock", "(I)Z"⟩, 36) := ⟨⟨by decide +kernel, by decide +kernel⟩, List.mem_of_getElem? (i := 765) (by decide +kernel), List.mem_of_getElem? (i := 921) (by decide +kernel), List.mem_of_getElem? (i := 922) (by decide +kernel)⟩
theorem lw_p20 : lw_okq (⟨"SleepPlannerModel", "fails", "(I)I"⟩, 36) := ⟨⟨by decide +kernel, by decide +kernel⟩, List.mem_of_getElem? (i := 765) (by decide +kernel), List.mem_of_getElem? (i := 925) (by decide +kernel), List.mem_of_getElem? (i := 926) (by decide +kernel)⟩
theorem lw_p21 : lw_okq (⟨"SleepPlannerModel", "findsRunning", "()V"⟩, 36) := ⟨⟨by decide +kernel, by decide +kernel⟩, List.mem_of_getElem? (i := 765) (by decide +kernel), List.mem_of_getElem? (i := 941) (by decide +kernel), List.mem_of_getElem? (i := 942) (by decide +kernel)⟩
theorem lw_p22 : lw_okq (⟨"SleepPlannerModel", "deepestNow", "()I"⟩, 36) := ⟨⟨by decide +kernel, by decide +kernel⟩, List.mem_of_getElem? (i := 765) (by decide +kernel), List.mem_of_getElem? (i := 953) (by decide +kernel), List.mem_of_getElem? (i := 954) (by decide +kernel)⟩
theorem lw_p23 : lw_okq (⟨"SleepPlannerModel", "evenAt", "(I)I"⟩, 36) := ⟨⟨by decide +kernel, by decide +kernel⟩, List.mem_of_getElem? (i := 765) (by decide +kernel), List.mem_of_getElem? (i := 961) (by decide +kernel), List.mem_of_getElem? (i := 962) (by decide +kernel)⟩
theorem lw_p24 : lw_okq (⟨"SleepPlannerModel", "idleCost", "(II)J"⟩, 36) := ⟨⟨by decide +kernel, by decide +kernel⟩, List.mem_of_getElem? (i := 765) (by decide +kernel), List.mem_of_getElem? (i := 965) (by decide +kernel), List.mem_of_getElem? (i := 966) (by decide +kernel)⟩
theorem lw_p25 : lw_okq (⟨"SleepPlannerModel", "next", "()I"⟩, 36) := ⟨⟨by decide +kernel, by decide +kernel⟩, List.mem_of_getElem? (i := 765) (by decide +kernel), List.mem_of_getElem? (i := 989) (by decide +kernel), List.mem_of_getElem? (i := 990) (by decide +kernel)⟩
theorem lw_p26 : lw_okq (⟨"SleepPlannerModel", "playsOne", "()V"⟩, 36) := ⟨⟨by decide +kernel, by decide +kernel⟩, List.mem_of_getElem? (i := 765) (by decide +kernel), List.mem_of_getElem? (i := 998) (by decide +kernel), List.mem_of_getElem? (i := 999) (by decide +kernel)⟩
theorem lw_p27 : lw_okq (⟨"SleepPlannerModel", "mayWake", "()V"⟩, 36) := ⟨⟨by decide +kernel, by decide +kernel⟩, List.mem_of_getElem? (i := 765) (by decide +kernel), List.mem_of_getElem? (i := 1002) (by decide +kernel), List.mem_of_getElem? (i := 1003) (by decide +kernel)⟩
theorem lw_p28 : lw_okq (⟨"SleepPlannerModel", "isEvent", "()Z"⟩, 36) := ⟨⟨by decide +kernel, by decide +kernel⟩, List.mem_of_getElem? (i := 765) (by decide +kernel), List.mem_of_getElem? (i := 1006) (by decide +kernel), List.mem_of_getElem? (i := 1007) (by decide +kernel)⟩
theorem lw_p29 : lw_okq (⟨"SleepPlannerModel", "servesAll", "()V"⟩, 36) := ⟨⟨by decide +kernel, by decide +kernel⟩, List.mem_of_getElem? (i := 765) (by decide +kernel), List.mem_of_getElem? (i := 1010) (by decide +kernel), List.mem_of_getElem? (i := 1011) (by decide +kernel)⟩
theorem lw_p30 : lw_okq (⟨"SleepPlannerModel", "serves", "(I)V"⟩, 36) := ⟨⟨by decide +kernel, by decide +kernel⟩, List.mem_of_getElem? (i := 765) (by decide +kernel), List.mem_of_getElem? (i := 1014) (by decide +kernel), List.mem_of_getElem? (i := 1015) (by decide +kernel)⟩
theorem lw_p31 : lw_okq (⟨"SleepPlannerModel", "governs", "()V"⟩, 36) := ⟨⟨by decide +kernel, by decide +kernel⟩, List.mem_of_getElem? (i := 765) (by decide +kernel), List.mem_of_getElem? (i := 1018) (by decide +kernel), List.mem_of_getElem? (i := 1019) (by decide +kernel)⟩
def lw_privs_2 : List (MethodName × Nat) := [(⟨"SleepPlannerModel", "stirs", "()V"⟩, 36), (⟨"SleepPlannerModel", "spends", "(J)V"⟩, 36), (⟨"SleepPlannerModel", "wakes", "()V"⟩, 36), (⟨"SleepPlannerModel", "isClock", "(I)Z"⟩, 36), (⟨"SleepPlannerModel", "fails", "(I)I"⟩, 36), (⟨"SleepPlannerModel", "findsRunning", "()V"⟩, 36), (⟨"SleepPlannerModel", "deepestNow", "()I"⟩, 36), (⟨"SleepPlannerModel", "evenAt", "(I)I"⟩, 36), (⟨"SleepPlannerModel", "idleCost", "(II)J"⟩, 36), (⟨"SleepPlannerModel", "next", "()I"⟩, 36), (⟨"SleepPlannerModel", "playsOne", "()V"⟩, 36), (⟨"SleepPlannerModel", "mayWake", "()V"⟩, 36), (⟨"SleepPlannerModel", "isEvent", "()Z"⟩, 36), (⟨"SleepPlannerModel", "servesAll", "()V"⟩, 36), (⟨"SleepPlannerModel", "serves", "(I)V"⟩, 36), (⟨"SleepPlannerModel", "governs", "()V"⟩, 36)]
theorem lw_r2 : ∀ q ∈ lw_privs_2, lw_okq q := List.forall_mem_cons.mpr ⟨lw_p16, List.forall_mem_cons.mpr ⟨lw_p17, List.forall_mem_cons.mpr ⟨lw_p18, List.forall_mem_cons.mpr ⟨lw_p19, List.forall_mem_cons.mpr ⟨lw_p20, List.forall_mem_cons.mpr ⟨lw_p21, List.forall_mem_cons.mpr ⟨lw_p22, List.forall_mem_cons.mpr ⟨lw_p23, List.forall_mem_cons.mpr ⟨lw_p24, List.forall_mem_cons.mpr ⟨lw_p25, List.forall_mem_cons.mpr ⟨lw_p26, List.forall_mem_cons.mpr ⟨lw_p27, List.forall_mem_cons.mpr ⟨lw_p28, List.forall_mem_cons.mpr ⟨lw_p29, List.forall_mem_cons.mpr ⟨lw_p30, List.forall_mem_cons.mpr ⟨lw_p31, fun _ h => absurd h List.not_mem_nil⟩⟩⟩⟩⟩⟩⟩⟩⟩⟩⟩⟩⟩⟩⟩⟩
theorem lw_p32 : lw_okq (⟨"SleepPlannerModel", "chooses", "(II)I"⟩, 36) := ⟨⟨by decide +kernel, by decide +kernel⟩, List.mem_of_getElem? (i := 765) (by decide +kernel), List.mem_of_getElem? (i := 1022) (by decide +kernel), List.mem_of_getElem? (i := 1023) (by decide +kernel)⟩
theorem lw_p33 : lw_okq (⟨"SleepPlannerModel", "mean", "()I"⟩, 36) := ⟨⟨by decide +kernel, by decide +kernel⟩, List.mem_of_getElem? (i := 765) (by decide +kernel), List.mem_of_getElem? (i := 1026) (by decide +kernel), List.mem_of_getElem? (i := 1027) (by decide +kernel)⟩
theorem lw_p34 : lw_okq (⟨"SleepPlannerModel", "battery", "()V"⟩, 36) := ⟨⟨by decide +kernel, by decide +kernel⟩, List.mem_of_getElem? (i := 765) (by decide +kernel), List.mem_of_getElem? (i := 1030) (by decide +kernel), List.mem_of_getElem? (i := 1031) (by decide +kernel)⟩
theorem lw_p35 : lw_okq (⟨"SleepPlannerModel", "isReach", "(I)Z"⟩, 36) := ⟨⟨by decide +kernel, by decide +kernel⟩, List.mem_of_getElem? (i := 765) (by decide +kernel), List.mem_of_getElem? (i := 1086) (by decide +kernel), List.mem_of_getElem? (i := 1087) (by decide +kernel)⟩
theorem lw_p36 : lw_okq (⟨"SleepPlannerModel", "wakeups", "(I)I"⟩, 36) := ⟨⟨by decide +kernel, by decide +kernel⟩, List.mem_of_getElem? (i := 765) (by decide +kernel), List.mem_of_getElem? (i := 1090) (by decide +kernel), List.mem_of_getElem? (i := 1091) (by decide +kernel)⟩
theorem lw_p37 : lw_okq (⟨"SleepPlannerModel", "nextPlanned", "(II)I"⟩, 36) := ⟨⟨by decide +kernel, by decide +kernel⟩, List.mem_of_getElem? (i := 765) (by decide +kernel), List.mem_of_getElem? (i := 1094) (by decide +kernel), List.mem_of_getElem? (i := 1095) (by decide +kernel)⟩
def lw_privs_3 : List (MethodName × Nat) := [(⟨"SleepPlannerModel", "chooses", "(II)I"⟩, 36), (⟨"SleepPlannerModel", "mean", "()I"⟩, 36), (⟨"SleepPlannerModel", "battery", "()V"⟩, 36), (⟨"SleepPlannerModel", "isReach", "(I)Z"⟩, 36), (⟨"SleepPlannerModel", "wakeups", "(I)I"⟩, 36), (⟨"SleepPlannerModel", "nextPlanned", "(II)I"⟩, 36)]
theorem lw_r3 : ∀ q ∈ lw_privs_3, lw_okq q := List.forall_mem_cons.mpr ⟨lw_p32, List.forall_mem_cons.mpr ⟨lw_p33, List.forall_mem_cons.mpr ⟨lw_p34, List.forall_mem_cons.mpr ⟨lw_p35, List.forall_mem_cons.mpr ⟨lw_p36, List.forall_mem_cons.mpr ⟨lw_p37, fun _ h => absurd h List.not_mem_nil⟩⟩⟩⟩⟩⟩
def lw_privs : List (MethodName × Nat) := lw_privs_1 ++ (lw_privs_2 ++ (lw_privs_3))
def lw_tbl : List Cond := k2_sels lw_privs ++ tables_1
theorem lw_privs_ok : ∀ q ∈ lw_privs, lw_okq q := by
  show ∀ q ∈ lw_privs_1 ++ (lw_privs_2 ++ (lw_privs_3)), lw_okq q
  exact List.forall_mem_append.mpr ⟨lw_r1, List.forall_mem_append.mpr ⟨lw_r2, lw_r3⟩⟩
/-! ===== BEGIN words of one list among another's, by their places ===== -/
theorem goodIn_r {big : List Cond} (ws : List Cond) (ps : List Nat) (hp : ws = ps.filterMap (fun i => big[i]?)) (h : ws.all goodWord = true) : GoodIn big ws := by
  intro w hw
  have h1 := List.all_eq_true.mp h w hw
  rw [hp] at hw
  obtain ⟨i, -, hi⟩ := List.mem_filterMap.mp hw
  have hm : w ∈ big := by first | exact List.mem_of_getElem? hi | exact List.getElem?_mem hi
  exact ⟨hm, good_of_word h1⟩
theorem goodIn_app {big a b : List Cond} (ha : GoodIn big a) (hb : GoodIn big b) : GoodIn big (a ++ b) := fun w h => (List.mem_append.mp h).elim (ha w) (hb w)
theorem goodIn_ca {big a b : List Cond} {c : Cond} (ha : GoodIn big (c :: a)) (hb : GoodIn big b) : GoodIn big (c :: (a ++ b)) := fun w h => (List.mem_cons.mp h).elim (fun e => ha w (List.mem_cons.mpr (Or.inl e))) (fun h => (List.mem_append.mp h).elim (fun h => ha w (List.mem_cons.mpr (Or.inr h))) (hb w))
theorem goodIn_sub {big ws : List Cond} (hm : ∀ w ∈ ws, w ∈ big) (h : ws.all goodWord = true) : GoodIn big ws := fun w hw => ⟨hm w hw, good_of_word (List.all_eq_true.mp h w hw)⟩
/-! ===== END ===== -/

/-! ===== BEGIN exceptions that leave a method, and their catching by the caller (launches without stack traces) ===== -/
section VXA
/-! The laws vx_back, vx_callV, vx_callS, vx_callSW, vx_throw0, vx_throwS follow proofs of the library, with one case more: JvmDerived/Free/Laws.lean (Back.of_free), Shelf42/LK1.lean (callV, callS), Shelf/KitTraced.lean (throwNew0V, throwNewS). -/
/-- where a method has thrown q: the class by its name, the cell, what was written, the world -/
def vx_T (XC : String → State → State → Prop) (st : State) (q : Addr) (t : State) (mc ms : Nat) (free : Addr → Prop) : Prop :=
  ∃ (E : String) (ce : Cell) (L : List Loc), XC E st t ∧ t.heap[q]? = some ce ∧ ce.vm = .none ∧ st.vm.findClass E = some ce.cls ∧ st.WarmedH t.vm ∧ st.sameButNew ({ t with vm := st.vm } : State) L mc ms ∧ ∀ z ∈ L, free z.base
def vx_Q (Qc : Array Value → State → Outcome → State → Prop) (XC : String → State → State → Prop) (mc ms : Nat) (free : Addr → Prop) : Array Value → State → Outcome → State → Prop := fun a st o t =>
  (Qc a st o t ∧ ∃ L, FrameEnd st o t L mc ms ∧ ∀ q ∈ L, free q.base) ∨ ∃ q, o = .threw q ∧ vx_T XC st q t mc ms free
/-- a callee that returns or throws -/
def vx_Met (l : Launch) (y : MethodName) (ws : List Cond) (rm : Room) (Pc : Array Value → State → Prop) (Qc : Array Value → State → Outcome → State → Prop) (XC : String → State → State → Prop) (mc ms : Nat) (free : Addr → Prop) : Prop :=
  MetFree l y (headSpec ws rm) Pc (fun _ _ _ _ _ => True) (vx_Q Qc XC mc ms free)
def vx_Post (XC : String → State → State → Prop) (mc ms : Nat) (free : Addr → Prop) : Pt → Array Value → Addr → Pt → Prop := fun A a q B =>
  ∃ (g : JFrame) (mk : MethodId) (t : State) (L : List Loc) (E : String) (ce : Cell), B.U.heap = t.heap ∧ B.U.vm = t.vm ∧ XC E (A.U.calling g mk a) t ∧ t.heap[q]? = some ce ∧ ce.vm = .none ∧ A.U.vm.findClass E = some ce.cls ∧ B.locs = A.locs ++ L ∧ (∀ z ∈ L, free z.base) ∧ B.cells = A.cells + mc ∧ B.slots = A.slots + ms
def vx_Back (l : Launch) (R : Room) (p : Program) (e : Env) (below : List Frame) (s : State) (sargs : Array Value) (y : MethodName) (len W9 : Nat)
    (Pre : Pt → Array Value → Prop) (Post : Pt → Array Value → Option Value → Pt → Prop) (PostX : Pt → Array Value → Addr → Pt → Prop) : Prop :=
  ∀ (m : MethodId) (meth : Method) (c : Code) (A : Pt) (g : JFrame) (ig : Instr) (mk : MethodId) (a : Array Value),
    Stand p l e R s m sargs below meth c A.U A.locs A.cells A.slots → g.method = m → g.locals.size = c.maxLocals → decode c.code g.pc = .ok (ig, len) →
    2 * g.monitorRoom + (g.stack.map fun v => v.category).sum ≤ W9 → A.U.methodNamed? y = some mk → Pre A a →
    (∃ (v : Option Value) (B : Pt), Stand p l e R s m sargs below meth c B.U B.locs B.cells B.slots ∧ Post A a v B ∧
      Steps p.tables e below (doInvoke e (A.U.setTop g) [] mk a).1 (B.U.setTop { g with pc := g.pc + len, stack := v.toList ++ g.stack })) ∨
    (∃ (q : Addr) (B : Pt), Stand p l e R s m sargs below meth c B.U B.locs B.cells B.slots ∧ PostX A a q B ∧
      Steps p.tables e below (doInvoke e (A.U.setTop g) [] mk a).1 ((B.U.setTop g).pushFrame (.throwing q)))
section Payer
variable {l : Launch} {R : Room} {p : Program} {e : Env} {below : List Frame} {s : State} {sargs : Array Value} {y : MethodName} {len W9 : Nat}
theorem vx_back {ws : List Cond} {rm : Room} {Pc : Array Value → State → Prop} {Qc : Array Value → State → Outcome → State → Prop} {XC : String → State → State → Prop} {mc ms : Nat} {free : Addr → Prop} {bytes : ByteArray} {maxL : Nat} {ret : Option FieldType}
    (hM : vx_Met l y ws rm Pc Qc XC mc ms free) (hblind : FrameBlind Pc) (hrc : rm.cells = mc) (hrs : rm.slots = ms)
    (hframes : rm.frames + 1 ≤ R.frames) (hlocals : W9 + (maxL + 11) + rm.locals ≤ R.locals)
    (hws : ∀ w ∈ ws, ∀ a' U, s.WarmedH U.vm → w.before a' U = true) (hcode : Cond.code y bytes maxL ret ∈ ws) (hinit : ∀ a' U, s.WarmedH U.vm → (Cond.initialized y.cls).before a' U = true) :
    vx_Back l R p e below s sargs y len W9 (PreOf R mc ms Pc) (PostOf Qc mc ms free) (vx_Post XC mc ms free) := by
  intro m meth c A g ig mk a X hg hsize hdg hW hn hp
  have h1 : (headSpec ws rm).pre.before a A.U = true := atoms_intro fun w hw => hws w hw _ _ X.warmed
  have h2 : (Cond.code y bytes maxL ret).before a A.U = true := hws _ hcode _ _ X.warmed
  have h3 : (Cond.initialized y.cls).before a A.U = true := hinit _ _ X.warmed
  have h4 : A.cells + (headSpec ws rm).room.cells ≤ R.cells := by rw [show (headSpec ws rm).room.cells = mc from hrc]; exact hp.1
  have h5 : A.slots + (headSpec ws rm).room.slots ≤ R.slots := by rw [show (headSpec ws rm).room.slots = ms from hrs]; exact hp.2.1
  have hPc : Pc a (A.U.calling g mk a) := hblind _ _ _ _ hp.2.2
  obtain ⟨U, Ls, c0, s0⟩ := A
  dsimp only [Pt.U, Pt.locs, Pt.cells, Pt.slots] at h1 h2 h3 h4 h5 X hn hPc ⊢
  obtain ⟨methY, cY, hmY, hcY, -, hlY, -, -, -, -⟩ := Cond.code_spec hn h2
  obtain ⟨kY, hkY, -⟩ := className_of_methodNamed hn
  have hinitY : kY.init = .initialized := Cond.initialized_spec (findClass_of_methodNamed hn) hkY h3
  have h : At U g.method c below := by rw [hg]; exact X.here
  have hlocals9 : W9 + (maxL + 11) + (headSpec ws rm).room.locals ≤ R.locals := hlocals
  have happ : (headSpec ws rm).appliesLoose y e.platform (U.calling g mk a) = true :=
    Spec.appliesLoose_calling (g := g) h hdg hn hkY hinitY
      (X.room_calling (g := g) (R' := (headSpec ws rm).room) hsize hmY hcY hframes (by rw [hlY]; omega) h4 h5) h1
  obtain ⟨mid, hmid⟩ := h.above
  have hfr : (U.setTop g).frames = (.java g :: mid) ++ below := by rw [State.frames_setTop' g h.top, hmid]; rfl
  obtain ⟨o, s₂, hsteps, -, hend, hq⟩ := Steps.callFree hM p X.admits X.cas X.clock (acts := []) hfr happ hPc trivial
  have hq' : vx_Q Qc XC mc ms free a (U.calling g mk a) o s₂ := hq
  rw [State.frames_setTop' g h.top] at hend
  obtain ⟨g₀, hg0⟩ := Option.isSome_iff_exists.mp h.top
  obtain ⟨r, hr⟩ := State.topJava?_eq_some.mp hg0
  have hr' : (({ U with heap := s₂.heap, slotsUsed := s₂.slotsUsed } : State).setVm s₂.vm).frames = .java g₀ :: r := hr
  rcases hq' with ⟨hqc, L, hfe, hL⟩ | ⟨q, rfl, E, ce, L, hx, hce, hcv, hcl, hW₂, hsm, hL⟩
  · obtain ⟨⟨v, rfl⟩, hW₂, e2, q2, q3, q4, q5, q6⟩ := id hfe
    have e3 : s₂ = ({ (U.calling g mk a).setFrames s₂.frames with heap := s₂.heap, slotsUsed := s₂.slotsUsed } : State).setVm s₂.vm := by
      have : s₂ = ({ s₂ with vm := (U.calling g mk a).vm } : State).setVm s₂.vm := rfl
      rw [e2] at this
      exact this
    obtain ⟨c₂, i₂, len₂, hc₂, hd₂, hf₂⟩ := hend
    have hW' : U.WarmedH s₂.vm := hW₂
    have hcc : c₂ = c := by
      have h1 : s₂.code? g.method = U.code? g.method := by
        rw [State.code?_eq, State.code?_eq, hW'.alike.method?]
      exact Option.some.inj (hc₂.symm.trans (h1.trans h.code))
    subst hcc
    have hlen : len₂ = len := by rw [hdg] at hd₂; cases hd₂; rfl
    subst hlen
    have hs₂ : s₂ = (({ U with heap := s₂.heap, slotsUsed := s₂.slotsUsed } : State).setVm s₂.vm).setTop { g with pc := g.pc + len₂, stack := v.toList ++ g.stack } := by
      refine e3.trans ?_
      rw [hf₂, State.calling_eq h.top, State.setFrames_setFrames, State.setTop_of_frames _ hr', hr]
      rfl
    have hsame : U.sameButNew ({ U with heap := s₂.heap, slotsUsed := s₂.slotsUsed } : State) L mc ms := by
      refine ⟨?_, q2, q3, q4, q5, q6⟩
      obtain ⟨t, ht, -⟩ := State.frames_cons hr
      show ({ U with heap := s₂.heap, slotsUsed := s₂.slotsUsed } : State) = { U.setFrames U.frames with heap := s₂.heap, slotsUsed := s₂.slotsUsed }
      rw [State.setFrames_self ht]
    subst hg
    refine Or.inl ⟨v, ⟨(({ U with heap := s₂.heap, slotsUsed := s₂.slotsUsed } : State).setVm s₂.vm), Ls ++ L, c0 + mc, s0 + ms⟩,
      ⟨X.admits, X.cas, X.clock, X.frames, X.room, X.hears, X.method, X.code, (X.here.setHeapUsed s₂.heap s₂.slotsUsed).setVm hW'.alike, X.tail, State.WarmedH.trans X.warmed hW', X.limits, X.bytes, X.same.trans (hsame.setVm s.vm)⟩,
      ⟨g, mk, s₂, L, rfl, rfl, hqc, rfl, hL, rfl, rfl⟩, ?_⟩
    show Steps p.tables e below _ ((({ U with heap := s₂.heap, slotsUsed := s₂.slotsUsed } : State).setVm s₂.vm).setTop { g with pc := g.pc + len₂, stack := v.toList ++ g.stack })
    rw [← hs₂]
    exact hsteps
  · obtain ⟨e2, q2, q3, q4, q5, q6⟩ := id hsm
    have e3 : s₂ = ({ (U.calling g mk a).setFrames s₂.frames with heap := s₂.heap, slotsUsed := s₂.slotsUsed } : State).setVm s₂.vm := by
      have : s₂ = ({ s₂ with vm := (U.calling g mk a).vm } : State).setVm s₂.vm := rfl
      rw [e2] at this
      exact this
    have hf₂ : s₂.frames = .throwing q :: .java g :: U.frames.tail := hend
    have hW' : U.WarmedH s₂.vm := hW₂
    have hs₂ : s₂ = ((({ U with heap := s₂.heap, slotsUsed := s₂.slotsUsed } : State).setVm s₂.vm).setTop g).pushFrame (.throwing q) := by
      refine e3.trans ?_
      rw [hf₂, State.calling_eq h.top, State.setFrames_setFrames, State.pushFrame, State.frames_setTop _ hr', State.setTop_of_frames _ hr', State.setFrames_setFrames, hr]
      rfl
    have hsame : U.sameButNew ({ U with heap := s₂.heap, slotsUsed := s₂.slotsUsed } : State) L mc ms := by
      refine ⟨?_, q2, q3, q4, q5, q6⟩
      obtain ⟨t, ht, -⟩ := State.frames_cons hr
      show ({ U with heap := s₂.heap, slotsUsed := s₂.slotsUsed } : State) = { U.setFrames U.frames with heap := s₂.heap, slotsUsed := s₂.slotsUsed }
      rw [State.setFrames_self ht]
    subst hg
    refine Or.inr ⟨q, ⟨(({ U with heap := s₂.heap, slotsUsed := s₂.slotsUsed } : State).setVm s₂.vm), Ls ++ L, c0 + mc, s0 + ms⟩,
      ⟨X.admits, X.cas, X.clock, X.frames, X.room, X.hears, X.method, X.code, (X.here.setHeapUsed s₂.heap s₂.slotsUsed).setVm hW'.alike, X.tail, State.WarmedH.trans X.warmed hW', X.limits, X.bytes, X.same.trans (hsame.setVm s.vm)⟩,
      ⟨g, mk, s₂, L, E, ce, rfl, rfl, hx, hce, hcv, hcl, rfl, hL, rfl, rfl⟩, ?_⟩
    show Steps p.tables e below _ (((({ U with heap := s₂.heap, slotsUsed := s₂.slotsUsed } : State).setVm s₂.vm).setTop g).pushFrame (.throwing q))
    rw [← hs₂]
    exact hsteps
end Payer
section Calls
variable {p : Program} {l : Launch} {e : Env} {R : Room} {s : State} {m : MethodId} {args : Array Value} {below : List Frame} {meth : Method} {c : Code} {T : State} {locs : List Loc} {cells slots : Nat}
theorem vx_callV (X : Stand p l e R s m args below meth c T locs cells slots) (hexec : p.tables.exec = Jvm.exec) {own C : String} {index : Nat} {y : MethodName} {bytes : ByteArray} {maxL : Nat} {ret : Option FieldType}
    (hown : s.vm.findClass own = some m.cls) (hlink : (Cond.methodLink own index y).before args s = true) (hinst : (Cond.instanceMethod y).before args s = true) (hsel : (Cond.selects C y y).before args s = true)
    (hcode : (Cond.code y bytes maxL ret).before args s = true) (hy : y.cls ≠ "java/lang/invoke/MethodHandle" ∧ y.cls ≠ "java/lang/invoke/VarHandle")
    {W9 : Nat} {Pre : Pt → Array Value → Prop} {Post : Pt → Array Value → Option Value → Pt → Prop} {PostX : Pt → Array Value → Addr → Pt → Prop} (hK : vx_Back l R p e below s args y 3 W9 Pre Post PostX)
    {b : Addr} {cellB : Cell} (hcell : T.heap[b]? = some cellB) (hobj : cellB.vm.isStatics = false) (hcls : s.vm.findClass C = some cellB.cls)
    {g : JFrame} (hg : g.method = m) (hsize : g.locals.size = c.maxLocals) {argsL rest : List Value} (hlen : ∀ sig, parseMethodDescriptor y.desc = some sig → argsL.length = sig.parameters.length)
    (hstack : g.stack = argsL.reverse ++ .ref b :: rest) (hW : 2 * g.monitorRoom + (rest.map fun v => v.category).sum ≤ W9) (hdg : decode c.code g.pc = .ok (.invokevirtual index, 3))
    (hpre : ∀ vm₁, s.WarmedH vm₁ → Pre ⟨T.setVm vm₁, locs, cells, slots⟩ (Value.ref b :: argsL).toArray) :
    (∃ (v : Option Value) (vm₁ : Vm) (B : Pt), s.WarmedH vm₁ ∧ Stand p l e R s m args below meth c B.U B.locs B.cells B.slots ∧ Post ⟨T.setVm vm₁, locs, cells, slots⟩ (Value.ref b :: argsL).toArray v B ∧
      ∀ target, Steps p.tables e below (B.U.setTop { g with pc := g.pc + 3, stack := v.toList ++ rest }) target → Steps p.tables e below (T.setTop g) target) ∨
    (∃ (q : Addr) (vm₁ : Vm) (B : Pt), s.WarmedH vm₁ ∧ Stand p l e R s m args below meth c B.U B.locs B.cells B.slots ∧ PostX ⟨T.setVm vm₁, locs, cells, slots⟩ (Value.ref b :: argsL).toArray q B ∧
      Steps p.tables e below (T.setTop g) ((B.U.setTop { g with stack := rest }).pushFrame (.throwing q))) := by
  obtain ⟨mk, methM, hnamed, hmethM, hstM, habM⟩ := Cond.instanceMethod_spec hinst
  obtain ⟨methM', cM, hmethM', -, -, -, -, -, -, hsigM⟩ := Cond.code_spec hnamed hcode
  cases hmethM.symm.trans hmethM'
  obtain ⟨c2, r2, m2, q1, q2, q3, q4, kP, hkP, hkPi⟩ := Cond.selects_spec hsel
  cases hcls.symm.trans q1
  cases (State.methodFound?_of_named hnamed hy).symm.trans q2
  cases hnamed.symm.trans q3
  have hselP : selectMethod e.platform s.vm cellB.cls mk = .method mk := by rw [Launch.admits_selectMethod X.admits]; exact q4
  obtain ⟨vm₁, X₁, hstep₁⟩ := X.invokevirtual hexec hown hlink hnamed hmethM hstM hkP hkPi hy (a := b) (cell := cellB) hcell
    (fun z h => by rw [h] at hobj; cases hobj) hselP hmethM habM hkP hkPi (g := g) hg (argsL := argsL) (rest := rest) (hlen _ hsigM) hstack hdg
  rcases hK m meth c ⟨T.setVm vm₁, locs, cells, slots⟩ { g with stack := rest } (.invokevirtual index) mk (Value.ref b :: argsL).toArray X₁ hg hsize hdg hW (X₁.named hnamed) (hpre vm₁ X₁.warmed) with ⟨v, B, X', hpost, hsteps⟩ | ⟨q, B, X', hpost, hsteps⟩
  · exact Or.inl ⟨v, vm₁, B, X₁.warmed, X', hpost, fun target h => hstep₁ _ fun acts => by rw [doInvoke_state]; exact hsteps.trans h⟩
  · exact Or.inr ⟨q, vm₁, B, X₁.warmed, X', hpost, hstep₁ _ fun acts => by rw [doInvoke_state]; exact hsteps⟩
theorem vx_callS (X : Stand p l e R s m args below meth c T locs cells slots) (hexec : p.tables.exec = Jvm.exec) {own : String} {index : Nat} {y : MethodName} {bytes : ByteArray} {maxL : Nat} {ret : Option FieldType}
    (hown : s.vm.findClass own = some m.cls) (hlink : (Cond.methodLink own index y).before args s = true) (hstat : (Cond.static y).before args s = true) (hinit : (Cond.initialized y.cls).before args s = true)
    (hcode : (Cond.code y bytes maxL ret).before args s = true) (hy : y.cls ≠ "java/lang/invoke/MethodHandle" ∧ y.cls ≠ "java/lang/invoke/VarHandle")
    {W9 : Nat} {Pre : Pt → Array Value → Prop} {Post : Pt → Array Value → Option Value → Pt → Prop} {PostX : Pt → Array Value → Addr → Pt → Prop} (hK : vx_Back l R p e below s args y 3 W9 Pre Post PostX)
    {g : JFrame} (hg : g.method = m) (hsize : g.locals.size = c.maxLocals) {argsL rest : List Value} (hlen : ∀ sig, parseMethodDescriptor y.desc = some sig → argsL.length = sig.parameters.length)
    (hstack : g.stack = argsL.reverse ++ rest) (hW : 2 * g.monitorRoom + (rest.map fun v => v.category).sum ≤ W9) (hdg : decode c.code g.pc = .ok (.invokestatic index, 3))
    (hpre : ∀ vm₁, s.WarmedH vm₁ → Pre ⟨T.setVm vm₁, locs, cells, slots⟩ argsL.toArray) :
    (∃ (v : Option Value) (vm₁ : Vm) (B : Pt), s.WarmedH vm₁ ∧ Stand p l e R s m args below meth c B.U B.locs B.cells B.slots ∧ Post ⟨T.setVm vm₁, locs, cells, slots⟩ argsL.toArray v B ∧
      ∀ target, Steps p.tables e below (B.U.setTop { g with pc := g.pc + 3, stack := v.toList ++ rest }) target → Steps p.tables e below (T.setTop g) target) ∨
    (∃ (q : Addr) (vm₁ : Vm) (B : Pt), s.WarmedH vm₁ ∧ Stand p l e R s m args below meth c B.U B.locs B.cells B.slots ∧ PostX ⟨T.setVm vm₁, locs, cells, slots⟩ argsL.toArray q B ∧
      Steps p.tables e below (T.setTop g) ((B.U.setTop { g with stack := rest }).pushFrame (.throwing q))) := by
  obtain ⟨mk, hnamed⟩ := Cond.code_named hcode
  obtain ⟨methM, cM, hmethM, -, -, -, -, -, -, hsigM⟩ := Cond.code_spec hnamed hcode
  have hstatic : methM.isStatic = true := Cond.static_spec hnamed hmethM hstat
  obtain ⟨kP, hkP, -⟩ := className_of_methodNamed hnamed
  have hinitP : kP.init = .initialized := Cond.initialized_spec (findClass_of_methodNamed hnamed) hkP hinit
  obtain ⟨vm₁, X₁, hstep₁⟩ := X.invokestatic hexec hown hlink hnamed hmethM hstatic hkP hinitP hy (g := g) hg (argsL := argsL) (rest := rest) (hlen _ hsigM) hstack hdg
  rcases hK m meth c ⟨T.setVm vm₁, locs, cells, slots⟩ { g with stack := rest } (.invokestatic index) mk argsL.toArray X₁ hg hsize hdg hW (X₁.named hnamed) (hpre vm₁ X₁.warmed) with ⟨v, B, X', hpost, hsteps⟩ | ⟨q, B, X', hpost, hsteps⟩
  · exact Or.inl ⟨v, vm₁, B, X₁.warmed, X', hpost, fun target h => hstep₁ _ fun acts => by rw [doInvoke_state]; exact hsteps.trans h⟩
  · exact Or.inr ⟨q, vm₁, B, X₁.warmed, X', hpost, hstep₁ _ fun acts => by rw [doInvoke_state]; exact hsteps⟩
end Calls
theorem vx_cls {s : State} {T : State} {vm₁ : Vm} {E : String} {k : ClassId} (hW : s.WarmedH vm₁) (h : (T.setVm vm₁).vm.findClass E = some k) : s.vm.findClass E = some k := by
  have h1 : vm₁.findClass E = some k := h
  rw [hW.alike.findClass] at h1
  exact h1
/-- the method's frame g, with q thrown over it -/
def vx_W (p : Program) (l : Launch) (e : Env) (R : Room) (s : State) (m : MethodId) (args : Array Value) (below : List Frame) (meth : Method) (c : Code) (H : Heap) (locs : List Loc) (cells slots : Nat) (Q : State → Prop) (g : JFrame) (q : Addr) : Prop :=
  ∀ T : State, T.heap = H → Stand p l e R s m args below meth c T locs cells slots → ∃ t, Steps p.tables e below ((T.setTop g).pushFrame (.throwing q)) t ∧ Q t
def vx_Run (p : Program) (l : Launch) (e : Env) (R : Room) (s : State) (m : MethodId) (args : Array Value) (below : List Frame) (meth : Method) (c : Code) (H : Heap) (locs : List Loc) (cells slots mc ms : Nat) (g : JFrame) (rest : List Value) (Qa : State → Outcome → State → Prop) (XC : String → State → State → Prop) (free : Addr → Prop) : Prop :=
  ∀ T : State, T.heap = H → Stand p l e R s m args below meth c T locs cells slots →
    (∃ (v : Option Value) (st₀ t T' : State) (L : List Loc), st₀.heap = H ∧ Stand p l e R s m args below meth c T' (locs ++ L) (cells + mc) (slots + ms) ∧ (∀ q ∈ L, free q.base) ∧ T'.heap = t.heap ∧ T'.vm = t.vm ∧ Qa st₀ (.returned v) t ∧
      Goes p e below T g T' { g with pc := g.pc + 3, stack := v.toList ++ rest }) ∨
    (∃ (q : Addr) (st₀ t T' : State) (L : List Loc) (E : String) (ce : Cell), st₀.heap = H ∧ Stand p l e R s m args below meth c T' (locs ++ L) (cells + mc) (slots + ms) ∧ (∀ z ∈ L, free z.base) ∧ T'.heap = t.heap ∧ T'.vm = t.vm ∧ XC E st₀ t ∧ t.heap[q]? = some ce ∧ ce.vm = .none ∧ s.vm.findClass E = some ce.cls ∧
      Steps p.tables e below (T.setTop g) ((T'.setTop { g with stack := rest }).pushFrame (.throwing q)))
def vx_X {S : Type} (px : S → Prop) (B : String → S → State → Prop) (A : Nat → Prop) : String → State → State → Prop := fun E st t => ∃ u : S, px u ∧ B E u t ∧ va_F A st t
section Runs
variable {p : Program} {l : Launch} {e : Env} {R : Room} {s : State} {m : MethodId} {args : Array Value} {below : List Frame} {meth : Method} {c : Code} {H : Heap} {locs : List Loc} {cells slots : Nat}
variable {y : MethodName} {bytes cc : ByteArray} {maxL nL mc ms n index : Nat} {ret : Option FieldType} {ws : List Cond} {rm : Room} {Pc : Array Value → State → Prop} {Qc : Array Value → State → Outcome → State → Prop} {XC : String → State → State → Prop} {free : Addr → Prop} {Ts : List Cond} {own C : String} {b : Addr} {As rest : List Value} {g : JFrame}
theorem vx_callBack (cb : CallB R s args own index y bytes maxL ret ws rm mc ms n) (hM : vx_Met l y ws rm Pc Qc XC mc ms free) (hbl : FrameBlind Pc) : vx_Back l R p e below s args y 3 8 (PreOf R mc ms Pc) (PostOf Qc mc ms free) (vx_Post XC mc ms free) := by
  obtain ⟨hrc, hrs, hfr, hlo, hws, hcw, -, hini, -⟩ := cb
  exact vx_back (bytes := bytes) (maxL := maxL) (ret := ret) hM hbl hrc hrs hfr hlo hws hcw (fun a' U hW => word_at hW (Or.inl (by first | rfl | simp [Cond.onTables, Cond.keeps, Cond.steady])) hini)
theorem vx_runV (S : CallFix p m c cc nL s args Ts own) (hM : vx_Met l y ws rm Pc Qc XC mc ms free) (cw : CallW R s args own C index y bytes maxL ret ws rm mc ms n) (hp : PreV s H C b Pc As)
    (hg : g.method = m) (hn : As.length = n) (hsize : g.locals.size = nL) (hstack : g.stack = As.reverse ++ .ref b :: rest) (hW : 2 * g.monitorRoom + (rest.map fun v => v.category).sum ≤ 8) (hdg : decode cc g.pc = .ok (.invokevirtual index, 3)) (hf : cells + mc ≤ R.cells ∧ slots + ms ≤ R.slots) :
    vx_Run p l e R s m args below meth c H locs cells slots mc ms g rest (Qc (Value.ref b :: As).toArray) XC free := by
  have hK : vx_Back l R p e below s args y 3 8 (PreOf R mc ms Pc) (PostOf Qc mc ms free) (vx_Post XC mc ms free) := vx_callBack cw.1 hM hp.1
  obtain ⟨⟨-, -, -, -, -, -, hcode, -, hy, hlen, hl⟩, hin, hse⟩ := cw
  obtain ⟨hx, hb, hml, ho, -⟩ := S
  obtain ⟨-, ⟨cellB, hcB, hoB, hclB⟩, hPc⟩ := hp
  intro T hT X
  rcases vx_callV X hx (C := C) (bytes := bytes) (maxL := maxL) (ret := ret) ho hl hin hse hcode hy hK (by rw [hT]; exact hcB) hoB hclB hg (hsize.trans hml.symm) (argsL := As) (rest := rest) (fun sig h => hn.trans (hlen sig h)) hstack hW (by rw [hb]; exact hdg)
    (fun vm₁ hW₁ => ⟨hf.1, hf.2, hPc (T.setVm vm₁) hT hW₁⟩) with ⟨v, vm₁, ⟨U', l2, c2, s2⟩, hW₁, X', ⟨g', mk, t, L, e1, e2, hq, h1, hL, h2, h3⟩, st⟩ | ⟨q, vm₁, ⟨U', l2, c2, s2⟩, hW₁, X', ⟨g', mk, t, L, E, ce, e1, e2, hq, hce, hcv, hcl, h1, hL, h2, h3⟩, st⟩
  · dsimp only [Pt.U, Pt.locs, Pt.cells, Pt.slots] at X' e1 e2 h1 h2 h3 st
    subst h1; subst h2; subst h3
    exact Or.inl ⟨v, (T.setVm vm₁).calling g' mk (Value.ref b :: As).toArray, t, U', L, hT, X', hL, e1, e2, hq, st⟩
  · dsimp only [Pt.U, Pt.locs, Pt.cells, Pt.slots] at X' e1 e2 h1 h2 h3 st hcl
    subst h1; subst h2; subst h3
    exact Or.inr ⟨q, (T.setVm vm₁).calling g' mk (Value.ref b :: As).toArray, t, U', L, E, ce, hT, X', hL, e1, e2, hq, hce, hcv, vx_cls hW₁ hcl, st⟩
theorem vx_runS (S : CallFix p m c cc nL s args Ts own) (hM : vx_Met l y ws rm Pc Qc XC mc ms free) (cw : CallB R s args own index y bytes maxL ret ws rm mc ms n ∧ (Cond.static y).before args s = true) (hp : PreS s H Pc As)
    (hg : g.method = m) (hn : As.length = n) (hsize : g.locals.size = nL) (hstack : g.stack = As.reverse ++ rest) (hW : 2 * g.monitorRoom + (rest.map fun v => v.category).sum ≤ 8) (hdg : decode cc g.pc = .ok (.invokestatic index, 3)) (hf : cells + mc ≤ R.cells ∧ slots + ms ≤ R.slots) :
    vx_Run p l e R s m args below meth c H locs cells slots mc ms g rest (Qc As.toArray) XC free := by
  have hK : vx_Back l R p e below s args y 3 8 (PreOf R mc ms Pc) (PostOf Qc mc ms free) (vx_Post XC mc ms free) := vx_callBack cw.1 hM hp.1
  obtain ⟨⟨-, -, -, -, -, -, hcode, hini, hy, hlen, hl⟩, hstt⟩ := cw
  obtain ⟨hx, hb, hml, ho, -⟩ := S
  intro T hT X
  rcases vx_callS X hx (bytes := bytes) (maxL := maxL) (ret := ret) ho hl hstt hini hcode hy hK hg (hsize.trans hml.symm) (argsL := As) (rest := rest) (fun sig h => hn.trans (hlen sig h)) hstack hW (by rw [hb]; exact hdg)
    (fun vm₁ hW₁ => ⟨hf.1, hf.2, hp.2 (T.setVm vm₁) hT hW₁⟩) with ⟨v, vm₁, ⟨U', l2, c2, s2⟩, hW₁, X', ⟨g', mk, t, L, e1, e2, hq, h1, hL, h2, h3⟩, st⟩ | ⟨q, vm₁, ⟨U', l2, c2, s2⟩, hW₁, X', ⟨g', mk, t, L, E, ce, e1, e2, hq, hce, hcv, hcl, h1, hL, h2, h3⟩, st⟩
  · dsimp only [Pt.U, Pt.locs, Pt.cells, Pt.slots] at X' e1 e2 h1 h2 h3 st
    subst h1; subst h2; subst h3
    exact Or.inl ⟨v, (T.setVm vm₁).calling g' mk As.toArray, t, U', L, hT, X', hL, e1, e2, hq, st⟩
  · dsimp only [Pt.U, Pt.locs, Pt.cells, Pt.slots] at X' e1 e2 h1 h2 h3 st hcl
    subst h1; subst h2; subst h3
    exact Or.inr ⟨q, (T.setVm vm₁).calling g' mk As.toArray, t, U', L, E, ce, hT, X', hL, e1, e2, hq, hce, hcv, vx_cls hW₁ hcl, st⟩
end Runs
section Rows
variable {p : Program} {l : Launch} {e : Env} {R : Room} {s : State} {m : MethodId} {args : Array Value} {below : List Frame} {meth : Method} {c : Code} {H : Heap} {locs : List Loc} {cells slots : Nat} {Q : State → Prop}
variable {mc ms : Nat} {free : Addr → Prop} {A0 A1 : Nat → Prop} {H0 : Heap} {a : Array Value} {pc : Nat} {ls : Array Slot} {st0 rest : List Value}
theorem vx_keep {st₀ t T' : State} {L : List Loc} (h0 : st₀.heap = H) (e1 : T'.heap = t.heap) (hS : va_S A0 H0 H locs) (hA : ∀ q, q < H.size → A1 q → A0 q) (hf : ∀ q, free q → A0 q) (hL : ∀ q ∈ L, free q.base) (hF : va_F A1 st₀ t) :
    H.size ≤ T'.heap.size ∧ (∀ q : Nat, q < H.size → ¬ A1 q → T'.heap[q]? = H[q]?) ∧ va_S A0 H0 T'.heap (locs ++ L) := by
  obtain ⟨hz, hk⟩ := hF
  rw [h0] at hz hk
  exact ⟨by rw [e1]; exact hz, fun q h1 h2 => by rw [e1]; exact hk q h1 h2,
    ⟨Nat.le_trans hS.1 (by rw [e1]; exact hz), fun q h1 h2 => by rw [e1, hk q (Nat.lt_of_lt_of_le h1 hS.1) (fun z => h2 (hA q (Nat.lt_of_lt_of_le h1 hS.1) z))]; exact hS.2.1 q h1 h2, fun q hq => by
      rcases List.mem_append.mp hq with h | h
      · exact hS.2.2 q h
      · exact hf _ (hL q h)⟩⟩
theorem vx_calli {S SX : Type} {post : Int32 → S → Prop} {px : SX → Prop} {B : S → State → Prop} {BX : String → SX → State → Prop} {AX : Nat → Prop} (hr : vx_Run p l e R s m args below meth c H locs cells slots mc ms (F0 m pc ls st0) rest (va_Qi post B A1 a) (vx_X px BX AX) free) (hS : va_S A0 H0 H locs) (hA : ∀ q, q < H.size → A1 q → A0 q) (hf : ∀ q, free q → A0 q) (hAX : ∀ q, q < H.size → AX q → A0 q)
    (kx : ∀ (E : String) (ce : Cell) (q9 : Addr) (u : SX) (t : State) (H1 : Heap) (locs1 : List Loc), t.heap = H1 → s.vm.Alike t.vm → px u → BX E u t → H.size ≤ H1.size → (∀ q : Nat, q < H.size → ¬ AX q → H1[q]? = H[q]?) → va_S A0 H0 H1 locs1 → H1[q9]? = some ce → ce.vm = .none → s.vm.findClass E = some ce.cls → vx_W p l e R s m args below meth c H1 locs1 (cells + mc) (slots + ms) Q (F0 m pc ls rest) q9)
    (kk : ∀ (r : Int32) (u : S) (t : State) (H1 : Heap) (locs1 : List Loc), t.heap = H1 → s.vm.Alike t.vm → post r u → B u t → H.size ≤ H1.size → (∀ q : Nat, q < H.size → ¬ A1 q → H1[q]? = H[q]?) → va_S A0 H0 H1 locs1 → W p l e R s m args below meth c H1 locs1 (cells + mc) (slots + ms) Q (F0 m (pc + 3) ls (.int r :: rest))) : W p l e R s m args below meth c H locs cells slots Q (F0 m pc ls st0) := by
  intro T hT X
  rcases hr T hT X with ⟨v, st₀, t, T', L, h0, X', hL, e1, e2, ⟨⟨r, u, hv, hp, hb⟩, hF⟩, st⟩ | ⟨q, st₀, t, T', L, E, ce, h0, X', hL, e1, e2, ⟨u, hp, hb, hF⟩, hce, hcv, hcl, st⟩
  · cases hv
    obtain ⟨k1, k2, k3⟩ := vx_keep h0 e1 hS hA hf hL hF
    obtain ⟨t2, a1, b1⟩ := kk r u t T'.heap (locs ++ L) e1.symm (by rw [← e2]; exact X'.warmed.alike) hp hb k1 k2 k3 T' rfl X'
    exact ⟨t2, st t2 a1, b1⟩
  · obtain ⟨k1, k2, k3⟩ := vx_keep h0 e1 hS hAX hf hL hF
    obtain ⟨t2, a1, b1⟩ := kx E ce q u t T'.heap (locs ++ L) e1.symm (by rw [← e2]; exact X'.warmed.alike) hp hb k1 k2 k3 (by rw [e1]; exact hce) hcv hcl T' rfl X'
    exact ⟨t2, st.trans a1, b1⟩
theorem vx_calll {S SX : Type} {post : Int64 → S → Prop} {px : SX → Prop} {B : S → State → Prop} {BX : String → SX → State → Prop} {AX : Nat → Prop} (hr : vx_Run p l e R s m args below meth c H locs cells slots mc ms (F0 m pc ls st0) rest (va_Ql post B A1 a) (vx_X px BX AX) free) (hS : va_S A0 H0 H locs) (hA : ∀ q, q < H.size → A1 q → A0 q) (hf : ∀ q, free q → A0 q) (hAX : ∀ q, q < H.size → AX q → A0 q)
    (kx : ∀ (E : String) (ce : Cell) (q9 : Addr) (u : SX) (t : State) (H1 : Heap) (locs1 : List Loc), t.heap = H1 → s.vm.Alike t.vm → px u → BX E u t → H.size ≤ H1.size → (∀ q : Nat, q < H.size → ¬ AX q → H1[q]? = H[q]?) → va_S A0 H0 H1 locs1 → H1[q9]? = some ce → ce.vm = .none → s.vm.findClass E = some ce.cls → vx_W p l e R s m args below meth c H1 locs1 (cells + mc) (slots + ms) Q (F0 m pc ls rest) q9)
    (kk : ∀ (r : Int64) (u : S) (t : State) (H1 : Heap) (locs1 : List Loc), t.heap = H1 → s.vm.Alike t.vm → post r u → B u t → H.size ≤ H1.size → (∀ q : Nat, q < H.size → ¬ A1 q → H1[q]? = H[q]?) → va_S A0 H0 H1 locs1 → W p l e R s m args below meth c H1 locs1 (cells + mc) (slots + ms) Q (F0 m (pc + 3) ls (.long r :: rest))) : W p l e R s m args below meth c H locs cells slots Q (F0 m pc ls st0) := by
  intro T hT X
  rcases hr T hT X with ⟨v, st₀, t, T', L, h0, X', hL, e1, e2, ⟨⟨r, u, hv, hp, hb⟩, hF⟩, st⟩ | ⟨q, st₀, t, T', L, E, ce, h0, X', hL, e1, e2, ⟨u, hp, hb, hF⟩, hce, hcv, hcl, st⟩
  · cases hv
    obtain ⟨k1, k2, k3⟩ := vx_keep h0 e1 hS hA hf hL hF
    obtain ⟨t2, a1, b1⟩ := kk r u t T'.heap (locs ++ L) e1.symm (by rw [← e2]; exact X'.warmed.alike) hp hb k1 k2 k3 T' rfl X'
    exact ⟨t2, st t2 a1, b1⟩
  · obtain ⟨k1, k2, k3⟩ := vx_keep h0 e1 hS hAX hf hL hF
    obtain ⟨t2, a1, b1⟩ := kx E ce q u t T'.heap (locs ++ L) e1.symm (by rw [← e2]; exact X'.warmed.alike) hp hb k1 k2 k3 (by rw [e1]; exact hce) hcv hcl T' rfl X'
    exact ⟨t2, st.trans a1, b1⟩
theorem vx_callf {S SX : Type} {post : UInt32 → S → Prop} {px : SX → Prop} {B : S → State → Prop} {BX : String → SX → State → Prop} {AX : Nat → Prop} (hr : vx_Run p l e R s m args below meth c H locs cells slots mc ms (F0 m pc ls st0) rest (va_Qf post B A1 a) (vx_X px BX AX) free) (hS : va_S A0 H0 H locs) (hA : ∀ q, q < H.size → A1 q → A0 q) (hf : ∀ q, free q → A0 q) (hAX : ∀ q, q < H.size → AX q → A0 q)
    (kx : ∀ (E : String) (ce : Cell) (q9 : Addr) (u : SX) (t : State) (H1 : Heap) (locs1 : List Loc), t.heap = H1 → s.vm.Alike t.vm → px u → BX E u t → H.size ≤ H1.size → (∀ q : Nat, q < H.size → ¬ AX q → H1[q]? = H[q]?) → va_S A0 H0 H1 locs1 → H1[q9]? = some ce → ce.vm = .none → s.vm.findClass E = some ce.cls → vx_W p l e R s m args below meth c H1 locs1 (cells + mc) (slots + ms) Q (F0 m pc ls rest) q9)
    (kk : ∀ (r : UInt32) (u : S) (t : State) (H1 : Heap) (locs1 : List Loc), t.heap = H1 → s.vm.Alike t.vm → post r u → B u t → H.size ≤ H1.size → (∀ q : Nat, q < H.size → ¬ A1 q → H1[q]? = H[q]?) → va_S A0 H0 H1 locs1 → W p l e R s m args below meth c H1 locs1 (cells + mc) (slots + ms) Q (F0 m (pc + 3) ls (.float r :: rest))) : W p l e R s m args below meth c H locs cells slots Q (F0 m pc ls st0) := by
  intro T hT X
  rcases hr T hT X with ⟨v, st₀, t, T', L, h0, X', hL, e1, e2, ⟨⟨r, u, hv, hp, hb⟩, hF⟩, st⟩ | ⟨q, st₀, t, T', L, E, ce, h0, X', hL, e1, e2, ⟨u, hp, hb, hF⟩, hce, hcv, hcl, st⟩
  · cases hv
    obtain ⟨k1, k2, k3⟩ := vx_keep h0 e1 hS hA hf hL hF
    obtain ⟨t2, a1, b1⟩ := kk r u t T'.heap (locs ++ L) e1.symm (by rw [← e2]; exact X'.warmed.alike) hp hb k1 k2 k3 T' rfl X'
    exact ⟨t2, st t2 a1, b1⟩
  · obtain ⟨k1, k2, k3⟩ := vx_keep h0 e1 hS hAX hf hL hF
    obtain ⟨t2, a1, b1⟩ := kx E ce q u t T'.heap (locs ++ L) e1.symm (by rw [← e2]; exact X'.warmed.alike) hp hb k1 k2 k3 (by rw [e1]; exact hce) hcv hcl T' rfl X'
    exact ⟨t2, st.trans a1, b1⟩
theorem vx_calld {S SX : Type} {post : UInt64 → S → Prop} {px : SX → Prop} {B : S → State → Prop} {BX : String → SX → State → Prop} {AX : Nat → Prop} (hr : vx_Run p l e R s m args below meth c H locs cells slots mc ms (F0 m pc ls st0) rest (va_Qd post B A1 a) (vx_X px BX AX) free) (hS : va_S A0 H0 H locs) (hA : ∀ q, q < H.size → A1 q → A0 q) (hf : ∀ q, free q → A0 q) (hAX : ∀ q, q < H.size → AX q → A0 q)
    (kx : ∀ (E : String) (ce : Cell) (q9 : Addr) (u : SX) (t : State) (H1 : Heap) (locs1 : List Loc), t.heap = H1 → s.vm.Alike t.vm → px u → BX E u t → H.size ≤ H1.size → (∀ q : Nat, q < H.size → ¬ AX q → H1[q]? = H[q]?) → va_S A0 H0 H1 locs1 → H1[q9]? = some ce → ce.vm = .none → s.vm.findClass E = some ce.cls → vx_W p l e R s m args below meth c H1 locs1 (cells + mc) (slots + ms) Q (F0 m pc ls rest) q9)
    (kk : ∀ (r : UInt64) (u : S) (t : State) (H1 : Heap) (locs1 : List Loc), t.heap = H1 → s.vm.Alike t.vm → post r u → B u t → H.size ≤ H1.size → (∀ q : Nat, q < H.size → ¬ A1 q → H1[q]? = H[q]?) → va_S A0 H0 H1 locs1 → W p l e R s m args below meth c H1 locs1 (cells + mc) (slots + ms) Q (F0 m (pc + 3) ls (.double r :: rest))) : W p l e R s m args below meth c H locs cells slots Q (F0 m pc ls st0) := by
  intro T hT X
  rcases hr T hT X with ⟨v, st₀, t, T', L, h0, X', hL, e1, e2, ⟨⟨r, u, hv, hp, hb⟩, hF⟩, st⟩ | ⟨q, st₀, t, T', L, E, ce, h0, X', hL, e1, e2, ⟨u, hp, hb, hF⟩, hce, hcv, hcl, st⟩
  · cases hv
    obtain ⟨k1, k2, k3⟩ := vx_keep h0 e1 hS hA hf hL hF
    obtain ⟨t2, a1, b1⟩ := kk r u t T'.heap (locs ++ L) e1.symm (by rw [← e2]; exact X'.warmed.alike) hp hb k1 k2 k3 T' rfl X'
    exact ⟨t2, st t2 a1, b1⟩
  · obtain ⟨k1, k2, k3⟩ := vx_keep h0 e1 hS hAX hf hL hF
    obtain ⟨t2, a1, b1⟩ := kx E ce q u t T'.heap (locs ++ L) e1.symm (by rw [← e2]; exact X'.warmed.alike) hp hb k1 k2 k3 (by rw [e1]; exact hce) hcv hcl T' rfl X'
    exact ⟨t2, st.trans a1, b1⟩
theorem vx_callv {S SX : Type} {post : S → Prop} {px : SX → Prop} {B : S → State → Prop} {BX : String → SX → State → Prop} {AX : Nat → Prop} (hr : vx_Run p l e R s m args below meth c H locs cells slots mc ms (F0 m pc ls st0) rest (va_Qv post B A1 a) (vx_X px BX AX) free) (hS : va_S A0 H0 H locs) (hA : ∀ q, q < H.size → A1 q → A0 q) (hf : ∀ q, free q → A0 q) (hAX : ∀ q, q < H.size → AX q → A0 q)
    (kx : ∀ (E : String) (ce : Cell) (q9 : Addr) (u : SX) (t : State) (H1 : Heap) (locs1 : List Loc), t.heap = H1 → s.vm.Alike t.vm → px u → BX E u t → H.size ≤ H1.size → (∀ q : Nat, q < H.size → ¬ AX q → H1[q]? = H[q]?) → va_S A0 H0 H1 locs1 → H1[q9]? = some ce → ce.vm = .none → s.vm.findClass E = some ce.cls → vx_W p l e R s m args below meth c H1 locs1 (cells + mc) (slots + ms) Q (F0 m pc ls rest) q9)
    (kk : ∀ (u : S) (t : State) (H1 : Heap) (locs1 : List Loc), t.heap = H1 → s.vm.Alike t.vm → post u → B u t → H.size ≤ H1.size → (∀ q : Nat, q < H.size → ¬ A1 q → H1[q]? = H[q]?) → va_S A0 H0 H1 locs1 → W p l e R s m args below meth c H1 locs1 (cells + mc) (slots + ms) Q (F0 m (pc + 3) ls (rest))) : W p l e R s m args below meth c H locs cells slots Q (F0 m pc ls st0) := by
  intro T hT X
  rcases hr T hT X with ⟨v, st₀, t, T', L, h0, X', hL, e1, e2, ⟨⟨u, hv, hp, hb⟩, hF⟩, st⟩ | ⟨q, st₀, t, T', L, E, ce, h0, X', hL, e1, e2, ⟨u, hp, hb, hF⟩, hce, hcv, hcl, st⟩
  · cases hv
    obtain ⟨k1, k2, k3⟩ := vx_keep h0 e1 hS hA hf hL hF
    obtain ⟨t2, a1, b1⟩ := kk u t T'.heap (locs ++ L) e1.symm (by rw [← e2]; exact X'.warmed.alike) hp hb k1 k2 k3 T' rfl X'
    exact ⟨t2, st t2 a1, b1⟩
  · obtain ⟨k1, k2, k3⟩ := vx_keep h0 e1 hS hAX hf hL hF
    obtain ⟨t2, a1, b1⟩ := kx E ce q u t T'.heap (locs ++ L) e1.symm (by rw [← e2]; exact X'.warmed.alike) hp hb k1 k2 k3 (by rw [e1]; exact hce) hcv hcl T' rfl X'
    exact ⟨t2, st.trans a1, b1⟩
/-- caught by the row x of this method's table; the rows ahead don't take it -/
theorem vx_catch {own name : String} {E : String} {ce : Cell} {q : Addr} (hown : s.vm.findClass own = some m.cls) (pre : List ExceptionTableEntry) (x : ExceptionTableEntry) (suf : List ExceptionTableEntry) (hsplit : c.exceptionTable.toList = pre ++ x :: suf)
    (hpass : ∀ z ∈ pre, covers z pc = false ∨ (z.catchType ≠ 0 ∧ ∃ nm : String, (Cond.classLink own z.catchType nm).before args s = true ∧ va_Nc E nm s)) (hx : covers x pc = true) (h0 : x.catchType ≠ 0)
    (hlink : (Cond.classLink own x.catchType name).before args s = true) (hcast : (Cond.castable E name).before args s = true) (hcell : H[q]? = some ce) (hv : ce.vm = .none) (hcl : s.vm.findClass E = some ce.cls)
    (kk : W p l e R s m args below meth c H locs cells slots Q (F0 m x.handlerPc ls [.ref q])) : vx_W p l e R s m args below meth c H locs cells slots Q (F0 m pc ls rest) q := by
  intro T hT X
  have hpl : e.platform.magicAccessors = ({} : Platform).magicAccessors := by rw [X.admits.platform]
  obtain ⟨c3, c4, hc3, hc4, hasg⟩ := Cond.castable_spec hcast
  cases Option.some.inj (hc3.symm.trans hcl)
  obtain ⟨c5, hc5, hcl5⟩ := Cond.classLink_spec hown hlink e.platform hpl
  cases Option.some.inj (hc4.symm.trans hc5)
  obtain ⟨vm', X', st⟩ := X.thenCaughtThrough q (g := F0 m pc ls rest) rfl (Steps.refl _) (by rw [hT]; exact hcell) (by rw [hv]; rfl) (by obtain ⟨k9, h9, -⟩ := Vm.findClass_spec hcl; exact ⟨k9, h9⟩) pre x suf hsplit
    (fun z hz => by
      rcases hpass z hz with h | ⟨hz0, nm, hl1, hn1⟩
      · exact Or.inl h
      · obtain ⟨c6, hc6, hcl6⟩ := Cond.classLink_spec hown hl1 e.platform hpl
        obtain ⟨a8, b8, h1, h2, h3⟩ := hn1
        cases Option.some.inj (h1.symm.trans hcl)
        cases Option.some.inj (h2.symm.trans hc6)
        exact Or.inr ⟨hz0, _, hcl6, h3⟩) hx (Or.inr ⟨h0, c4, hcl5, hasg⟩)
  obtain ⟨t, a1, b1⟩ := kk (T.setVm vm') hT X'
  exact ⟨t, st.trans a1, b1⟩
end Rows
section Ends
variable {p : Program} {l : Launch} {e : Env} {R : Room} {s : State} {m : MethodId} {args : Array Value} {below : List Frame} {meth : Method} {c : Code} {H : Heap} {locs : List Loc} {cells slots : Nat} {Q : State → Prop}
variable {mc ms : Nat} {free : Addr → Prop} {A0 A1 : Nat → Prop} {H0 : Heap} {a : Array Value} {ls : Array Slot} {st0 rest : List Value}
variable {Qc : Array Value → State → Outcome → State → Prop} {XC : String → State → State → Prop}
/-- what a body that may throw owes at its end -/
def vx_MQ (below : List Frame) (Qc : Array Value → State → Outcome → State → Prop) (XC : String → State → State → Prop) (a : Array Value) (s : State) (mc ms : Nat) (free : Addr → Prop) : State → Prop := fun t =>
  ∃ o, t.status = .running ∧ Ended t below o ∧ vx_Q Qc XC mc ms free a s o t
theorem vx_ret {g : JFrame} {mc ms : Nat} (k : W p l e R s m args below meth c H locs cells slots (MQ below Qc args s mc ms free) g) : W p l e R s m args below meth c H locs cells slots (vx_MQ below Qc XC args s mc ms free) g := by
  intro T hT X
  obtain ⟨t, a1, o, b1, b2, b3, b4⟩ := k T hT X
  exact ⟨t, a1, o, b1, b2, Or.inl ⟨b3, b4⟩⟩
/-- not caught here: it goes on to the caller -/
theorem vx_widen {g : JFrame} {q : Addr} {k n : Nat} (h1 : cells ≤ k) (h2 : slots ≤ n) (kk : vx_W p l e R s m args below meth c H locs k n Q g q) : vx_W p l e R s m args below meth c H locs cells slots Q g q := fun T hT X => kk T hT (stand_widen X h1 h2)
theorem vx_out {pc : Nat} {E : String} {ce : Cell} {q : Addr} {mc ms : Nat} (hout : ∀ x ∈ c.exceptionTable.toList, covers x pc = false) (hlocks : meth.locks = false) (hcell : H[q]? = some ce) (hv : ce.vm = .none) (hcl : s.vm.findClass E = some ce.cls)
    (hx : ∀ t : State, t.heap = H → s.vm.Alike t.vm → XC E s t) (hf : ∀ z ∈ locs, free z.base) (hc : cells ≤ mc) (hs : slots ≤ ms) :
    vx_W p l e R s m args below meth c H locs cells slots (vx_MQ below Qc XC args s mc ms free) (F0 m pc ls rest) q := by
  intro T hT X
  obtain ⟨st1, hrun, hend, hW, hsm⟩ := X.leaveThrown q (g := F0 m pc ls rest) rfl rfl rfl hout hlocks
  have hcell9 : (T.setFrames (.throwing q :: below)).heap[q]? = some ce := by
    show T.heap[q]? = some ce
    rw [hT]; exact hcell
  exact ⟨_, st1, .threw q, hrun, hend, Or.inr ⟨q, rfl, E, ce, locs, hx _ hT hW.alike, hcell9, hv, hcl, hW, hsm.mono hc hs, hf⟩⟩
theorem vx_frame {U : State} {k n : Nat} (h : s.sameButNew ({ U with vm := s.vm } : State) locs k n) : s.heap.size ≤ U.heap.size ∧ ∀ q : Nat, q < s.heap.size → (∀ z ∈ locs, z.base ≠ q) → U.heap[q]? = s.heap[q]? := by
  obtain ⟨-, h2, -, -, -, h6⟩ := h
  refine ⟨h2, fun q hq hz => ?_⟩
  obtain ⟨c9, e1, e2, e3, e4⟩ := h6 q _ (Array.getElem?_eq_getElem hq)
  have hs : c9.slots = (s.heap[q]).slots := Array.ext_getElem? fun i => e4 i fun hm => hz _ hm rfl
  have h9 : c9 = s.heap[q] := by
    rw [hs] at e2
    exact e2
  have e5 : U.heap[q]? = some c9 := e1
  rw [e5, h9, Array.getElem?_eq_getElem hq]
/-- the words of a throw but the four that speak of the heap -/
def vx_no (w : Cond) : Bool := decide (w ≠ .isRef (.static Bundle.tN "UNASSIGNED_STACK" Bundle.steD)) && decide (w ≠ .isRef (.static Bundle.tN "SUPPRESSED_SENTINEL" Bundle.listD)) && decide (w ≠ .laysStatic Bundle.tN "UNASSIGNED_STACK" Bundle.steD) && decide (w ≠ .laysStatic Bundle.tN "SUPPRESSED_SENTINEL" Bundle.listD)
def vx_at0 (own : String) (ic : Nat) (X : String) (names : List String) : List Cond := (Bundle.ownAtoms0 own ic X names).filter vx_no
def vx_atS (own : String) (ic : Nat) (X : String) (names : List String) : List Cond := (Bundle.ownAtoms own ic X names).filter vx_no
/-- a word that the tables alone decide, or a good one -/
def vx_ot (w : Cond) : Bool := w.onTables || goodWord w
theorem vx_ot_at {args a' : Array Value} {s U : State} {w : Cond} (hW : s.WarmedH U.vm) (hvm : s.vm = U.vm) (hg : vx_ot w = true) (h : w.before args s = true) : w.before a' U = true := by
  simp only [vx_ot, Bool.or_eq_true] at hg
  rcases hg with hg | hg
  · exact va_tabs hg hvm h
  · exact word_at hW (good_of_word hg) h
/-- a list's words: the good ones out of the method's own list, the others by premises of their own -/
theorem vx_hat {args : Array Value} {s : State} {L B : List Cond} (h1 : ∀ w ∈ L.filter goodWord, w.before args s = true) (h2 : ∀ w ∈ L.filter (fun w => !goodWord w), w ∈ B) (h3 : ∀ w ∈ B, w.before args s = true) : ∀ w ∈ L, w.before args s = true := by
  intro w hw
  by_cases g : goodWord w = true
  · exact h1 w (List.mem_filter.mpr ⟨hw, g⟩)
  · refine h3 w (h2 w (List.mem_filter.mpr ⟨hw, ?_⟩))
    show (!goodWord w) = true
    cases hgw : goodWord w
    · rfl
    · exact absurd hgw g
theorem vx_c {args : Array Value} {s : State} {w : Cond} {B : List Cond} (h : w.before args s = true) (t : ∀ w ∈ B, w.before args s = true) : ∀ w' ∈ w :: B, w'.before args s = true := fun w' h' => (List.mem_cons.mp h').elim (fun e => by rw [e]; exact h) (t w')
theorem vx_n {args : Array Value} {s : State} : ∀ w ∈ ([] : List Cond), w.before args s = true := fun _ h => nomatch h
theorem vx_own {args : Array Value} {s : State} {L : List Cond} (h1 : ∀ w ∈ L.filter vx_no, w.before args s = true)
    (hU : (Cond.isRef (.static Bundle.tN "UNASSIGNED_STACK" Bundle.steD)).before args s = true) (hN : (Cond.isRef (.static Bundle.tN "SUPPRESSED_SENTINEL" Bundle.listD)).before args s = true)
    (lU : (Cond.laysStatic Bundle.tN "UNASSIGNED_STACK" Bundle.steD).before args s = true) (lN : (Cond.laysStatic Bundle.tN "SUPPRESSED_SENTINEL" Bundle.listD).before args s = true) : ∀ w ∈ L, w.before args s = true := by
  intro w hw
  by_cases e1 : w = .isRef (.static Bundle.tN "UNASSIGNED_STACK" Bundle.steD)
  · rw [e1]; exact hU
  · by_cases e2 : w = .isRef (.static Bundle.tN "SUPPRESSED_SENTINEL" Bundle.listD)
    · rw [e2]; exact hN
    · by_cases e3 : w = .laysStatic Bundle.tN "UNASSIGNED_STACK" Bundle.steD
      · rw [e3]; exact lU
      · by_cases e4 : w = .laysStatic Bundle.tN "SUPPRESSED_SENTINEL" Bundle.listD
        · rw [e4]; exact lN
        · exact h1 w (List.mem_filter.mpr ⟨hw, by unfold vx_no; rw [decide_eq_true e1, decide_eq_true e2, decide_eq_true e3, decide_eq_true e4]; rfl⟩)
/-- where a static field lies, its class's statics cell in H -/
def vx_L (C n d : String) (A : Nat → Prop) (U : State) (H : Heap) : Prop := ∃ (c : ClassId) (k : Class) (i : Nat) (f : Field) (a : Nat) (cell : Cell), U.vm.findClass C = some c ∧ U.fieldFound? C n d = some (c, k, i, f) ∧ f.isStatic = true ∧ k.statics = some a ∧ H[a]? = some cell ∧ cell.vm.isStatics = true ∧ cell.cls = c ∧ f.slot < cell.slots.size ∧ k.staticTypes[f.slot]? = some f.type ∧ ¬ A a
theorem vx_L.moved {C n d : String} {A : Nat → Prop} {u U : State} {H : Heap} (hvm : u.vm.Alike U.vm) (h : vx_L C n d A u H) : vx_L C n d A U H := by
  obtain ⟨c, k, i, f, a, cell, h1, h2, h3, h4, h5, h6, h7, h8, h9, h10⟩ := h
  obtain ⟨k', hi', he⟩ := State.fieldFound?_setVm hvm h2
  exact ⟨c, k', i, f, a, cell, by rw [hvm.findClass]; exact h1, hi', h3, by rw [he]; exact h4, h5, h6, h7, h8, by rw [he]; exact h9, h10⟩
theorem vx_L.kept {C n d : String} {A : Nat → Prop} {U : State} {H H1 : Heap} (h : vx_L C n d A U H) (hq : ∀ a : Nat, a < H.size → ¬ A a → H1[a]? = H[a]?) : vx_L C n d A U H1 := by
  obtain ⟨c, k, i, f, a, cell, h1, h2, h3, h4, h5, h6, h7, h8, h9, h10⟩ := h
  exact ⟨c, k, i, f, a, cell, h1, h2, h3, h4, by rw [hq a (Array.getElem?_eq_some_iff.mp h5).1 h10]; exact h5, h6, h7, h8, h9, h10⟩
theorem vx_L.narrow {C n d : String} {A B : Nat → Prop} {U : State} {H : Heap} (h : vx_L C n d A U H) (hAB : ∀ q, B q → A q) : vx_L C n d B U H := by
  obtain ⟨c, k, i, f, a, cell, h1, h2, h3, h4, h5, h6, h7, h8, h9, h10⟩ := h
  exact ⟨c, k, i, f, a, cell, h1, h2, h3, h4, h5, h6, h7, h8, h9, fun z => h10 (hAB _ z)⟩
theorem vx_L.word {C n d : String} {A : Nat → Prop} {s : State} {args : Array Value} (h : vx_L C n d A s s.heap) : (Cond.laysStatic C n d).before args s = true := by
  obtain ⟨c, k, i, f, a, cell, h1, h2, h3, h4, h5, h6, h7, h8, h9, -⟩ := h
  show (Cond.laysStatic C n d).holds args s none s [] = true
  exact Cond.laysStatic_of h1 h2 h3 h4 h5 h6 h7 h8 h9
/-- .. and what it holds: null or some reference -/
def vx_Zq (C n d : String) (A : Nat → Prop) (U : State) (H : Heap) : Prop := va_Zq C n d A U H ∧ vx_L C n d A U H
theorem vx_Zq.moved {C n d : String} {A : Nat → Prop} {u U : State} {H : Heap} (hvm : u.vm.Alike U.vm) (h : vx_Zq C n d A u H) : vx_Zq C n d A U H := ⟨va_Zq.moved hvm h.1, vx_L.moved hvm h.2⟩
theorem vx_Zq.kept {C n d : String} {A : Nat → Prop} {U : State} {H H1 : Heap} (h : vx_Zq C n d A U H) (hq : ∀ a : Nat, a < H.size → ¬ A a → H1[a]? = H[a]?) : vx_Zq C n d A U H1 := ⟨va_Zq.kept h.1 hq, vx_L.kept h.2 hq⟩
theorem vx_Zq.narrow {C n d : String} {A B : Nat → Prop} {U : State} {H : Heap} (h : vx_Zq C n d A U H) (hAB : ∀ q, B q → A q) : vx_Zq C n d B U H := ⟨va_Zq.narrow h.1 hAB, vx_L.narrow h.2 hAB⟩
theorem vx_Zqof {args : Array Value} {s : State} {C n d : String} {A : Nat → Prop} (hl : (Cond.laysStatic C n d).before args s = true) (hini : (Cond.initialized C).before args s = true) (h : (Cond.isRef (.static C n d)).before args s = true) (hA : ∀ a : Nat, a < s.heap.size → ¬ A a) : vx_Zq C n d A s s.heap := by
  refine ⟨va_Zqof hl hini h hA, ?_⟩
  obtain ⟨c, k, i, f, a, cell, h1, h2, h3, h4, h5, h6, h7, h8, h9⟩ := Cond.laysStatic_spec hl
  exact ⟨c, k, i, f, a, cell, h1, h2, h3, h4, h5, h6, h7, h8, h9, hA a (Array.getElem?_eq_some_iff.mp h5).1⟩
theorem vx_isRef {C n d : String} {v : Value} {A : Nat → Prop} {s : State} {args : Array Value} (h : va_Z C n d v A s s.heap) (hv : v.isRef = true) : (Cond.isRef (.static C n d)).before args s = true := by
  obtain ⟨cf, kf, fi, f, a, cell, h1, h2, h3, h4, h5, h6, h7, -⟩ := h
  have he : (Term.static C n d).eval args s none [] s = some v := by
    simp [Term.eval, State.fieldNamed?, h1, h2, h4, h5, h6, h7]
  simp only [Cond.before, Cond.holds, Cond.value, he]
  cases v <;> simp_all [Value.isRef]
theorem vx_isRefq {C n d : String} {A : Nat → Prop} {s : State} {args : Array Value} (h : va_Zq C n d A s s.heap) : (Cond.isRef (.static C n d)).before args s = true := by
  rcases h with h | ⟨t, h⟩
  · exact vx_isRef h rfl
  · exact vx_isRef h rfl
/-- the same frame, seen from here: as if the method were called anew in this heap -/
theorem vx_rebase {T : State} (X : Stand p l e R s m args below meth c T locs cells slots) {R' : Room} (hf : R'.frames ≤ R.frames) (hl : R'.locals ≤ R.locals) (hc : cells + R'.cells ≤ R.cells) (hs : slots + R'.slots ≤ R.slots) :
    Stand p l e R' ((T.setVm s.vm).setFrames (.invoking m args :: below)) m args below meth c T [] 0 0 := by
  have htop : (T.setVm s.vm).topJava?.isSome := X.here.top
  have hF : ((T.setVm s.vm).setFrames (.invoking m args :: below)).frames = .invoking m args :: below := State.frames_setFrames _ (State.cur_lt_of_top htop)
  obtain ⟨g₀, hg0⟩ := Option.isSome_iff_exists.mp htop
  obtain ⟨r, hr⟩ := State.topJava?_eq_some.mp hg0
  have hl9 : e.platform.stackLimits (T.setVm s.vm).me = e.platform.stackLimits s.me := X.limits
  have hb9 : (T.setVm s.vm).me.stackBytes = s.me.stackBytes := X.bytes
  refine ⟨X.admits, X.cas, X.clock, hF, ?_, X.hears, X.method, X.code, X.here, X.tail, X.warmed, ?_, ?_, ?_⟩
  · have h := X.room
    have hU : ((T.setVm s.vm).setFrames (.invoking m args :: below)).localsInUse = s.localsInUse := by
      rw [State.localsInUse_invoking hF (meth := meth) (c := c) X.method X.code, State.localsInUse_invoking X.frames X.method X.code]
    simp only [State.hasRoom, Bool.and_eq_true, decide_eq_true_eq] at h ⊢
    obtain ⟨⟨⟨⟨h1, h2, h3, h4, h5, h6⟩, h7⟩, h8⟩, h9⟩ := h
    rw [X.frames, List.length_cons] at h2 h3
    have q1 := X.heapSize
    have q2 := X.used
    simp only [hF, hU, List.length_cons, State.stackLimits_setFrames, State.stackBytes_setFrames, hl9, hb9]
    refine ⟨⟨⟨⟨by omega, by omega, by omega, by omega, by omega, h6⟩, ?_⟩, ?_⟩, X.book⟩
    · show T.heap.size + R'.cells ≤ e.platform.maxCells
      omega
    · show T.slotsUsed + R'.slots ≤ e.platform.maxSlots
      omega
  · rw [State.stackLimits_setFrames]; rfl
  · rw [State.stackBytes_setFrames]; rfl
  · refine ⟨?_, Nat.le_refl _, Nat.le_refl _, ?_, ?_, fun a c9 h9 => ⟨c9, h9, rfl, rfl, fun _ _ => rfl⟩⟩
    · obtain ⟨t, ht, -⟩ := State.frames_cons hr
      show T.setVm s.vm = { ((T.setVm s.vm).setFrames (.invoking m args :: below)).setFrames (T.setVm s.vm).frames with heap := T.heap, slotsUsed := T.slotsUsed }
      rw [State.setFrames_setFrames, State.setFrames_self ht]
      rfl
    · show T.slotsUsed = T.slotsUsed + ((T.heap.toList.drop T.heap.size).map (·.slots.size)).sum
      rw [List.drop_eq_nil_of_le (Nat.le_of_eq Array.length_toList)]
      rfl
    · show ((T.heap.toList.drop T.heap.size).map (·.slots.size)).sum ≤ 0
      rw [List.drop_eq_nil_of_le (Nat.le_of_eq Array.length_toList)]
      exact Nat.le_refl _
/-- 'throw new E()': new; dup; invokespecial; athrow -/
theorem vx_throw0 {cc : ByteArray} {pc : Nat} (hexec : p.tables.exec = Jvm.exec) (hb : c.code = cc) (hl : l.stackTraces = false) {own cls : String} {names : List String} {ik ic mc ms : Nat} {A : Nat → Prop}
    (hown : s.vm.findClass own = some m.cls) (hcls : Bundle.fit cls = true) (hnames : ∀ n ∈ names, Bundle.fit n = true)
    (hk : (Cond.classLink own ik cls).before args s = true) (hini : (Cond.initialized cls).before args s = true) (hat : ∀ w ∈ vx_at0 own ic cls names, w.before args s = true)
    (hgood : ∀ w ∈ Cond.classLink own ik cls :: Cond.initialized cls :: vx_at0 own ic cls names, vx_ot w = true)
    (hU : vx_Zq Bundle.tN "UNASSIGNED_STACK" Bundle.steD A s s.heap) (hN : vx_Zq Bundle.tN "SUPPRESSED_SENTINEL" Bundle.listD A s s.heap) (hS : va_S A s.heap H locs) (hsize : ls.size = c.maxLocals)
    (d0 : decode cc pc = .ok (.new ik, 3)) (d3 : decode cc (pc + 3) = .ok (.dup, 1)) (d4 : decode cc (pc + 4) = .ok (.invokespecial ic, 3)) (d7 : decode cc (pc + 7) = .ok (.athrow, 1))
    (hout : ∀ x ∈ c.exceptionTable.toList, covers x (pc + 7) = false)
    (hRframes : names.length + 3 < R.frames) (hRlocals : (rest.map fun v => v.category).sum + (13 * (names.length + 1) + 42) ≤ R.locals) (hRcells : cells + 1 ≤ R.cells) (hRslots : slots + 6 ≤ R.slots) (hlocks : meth.locks = false)
    (hx : ∀ t : State, s.vm.Alike t.vm → H.size ≤ t.heap.size → (∀ q : Nat, q < H.size → t.heap[q]? = H[q]?) → XC cls s t)
    (hf : ∀ z ∈ locs, free z.base) (hc : cells + 1 ≤ mc) (hs : slots + 6 ≤ ms) :
    W p l e R s m args below meth c H locs cells slots (vx_MQ below Qc XC args s mc ms free) (F0 m pc ls rest) := by
  intro T hT X
  have htr : e.platform.stackTraces = false := (show e.platform.stackTraces = l.stackTraces by rw [X.admits.platform]).trans hl
  have Y := vx_rebase X (R' := { frames := R.frames, locals := R.locals, cells := 1, slots := 6 }) (Nat.le_refl _) (Nat.le_refl _) hRcells hRslots
  obtain ⟨s', hA⟩ : ∃ z, z = (T.setVm s.vm).setFrames (.invoking m args :: below) := ⟨_, rfl⟩
  rw [← hA] at Y
  have hvm : s'.vm = s.vm := by rw [hA]; rfl
  have hhp : s'.heap = H := by rw [hA]; exact hT
  have hW0 : s.WarmedH s'.vm := by rw [hvm]; exact State.WarmedH.refl s
  have hat' : ∀ w ∈ vx_at0 own ic cls names, w.before args s' = true := fun w hw => vx_ot_at hW0 hvm.symm (hgood w (List.mem_cons_of_mem _ (List.mem_cons_of_mem _ hw))) (hat w hw)
  have hk' : (Cond.classLink own ik cls).before args s' = true := vx_ot_at hW0 hvm.symm (hgood _ List.mem_cons_self) hk
  have hini' : (Cond.initialized cls).before args s' = true := vx_ot_at hW0 hvm.symm (hgood _ (List.mem_cons_of_mem _ List.mem_cons_self)) hini
  have hU' : vx_Zq Bundle.tN "UNASSIGNED_STACK" Bundle.steD A s' s'.heap := by rw [hhp]; exact vx_Zq.moved hW0.alike (hU.kept hS.2.1)
  have hN' : vx_Zq Bundle.tN "SUPPRESSED_SENTINEL" Bundle.listD A s' s'.heap := by rw [hhp]; exact vx_Zq.moved hW0.alike (hN.kept hS.2.1)
  have h : ∀ w ∈ Bundle.ownAtoms0 own ic cls names, w.before args s' = true := vx_own hat' (vx_isRefq hU'.1) (vx_isRefq hN'.1) hU'.2.word hN'.2.word
  have hown' : s'.vm.findClass own = some m.cls := by rw [hvm]; exact hown
  have hins : (Cond.instantiable cls 6).before args s' = true := h _ (by simp [Bundle.ownAtoms0])
  obtain ⟨vm₁, cX, kX, hfX, hkX, -, -, X₁, st1⟩ := Y.newCold hexec (own := own) (C := cls) (index := ik) (n := 6) hown' hk' hins hini'
    (g := F0 m pc ls rest) rfl (by rw [hb]; exact d0) (Nat.le_refl _) (Nat.le_refl _)
  generalize hT1 : (T.setVm vm₁).pushCell { cls := cX, slots := kX.instanceTypes.map defaultValue, vm := .none } = T1 at X₁ st1
  have hcat : (Value.ref T.heap.size).category = 1 := rfl
  have hcellA : T1.heap[T.heap.size]? = some (freshCell cX kX) := by rw [← hT1]; exact State.heap_pushCell_size _ _
  have d3' : decode c.code (pc + 3) = .ok (.dup, 1) := by rw [hb]; exact d3
  obtain ⟨U, hsteps, hrun, hend, hW, hsame, ce, hce, hO⟩ := X₁.ctorThrow0 hexec htr (own := own) (cls := cls) (names := names) (ic := ic) hown' hcls hnames h (fun x hx => nomatch hx) hfX hkX hcellA (by rw [hhp, hT]; exact Nat.le_refl _)
    (g := { method := m, pc := pc + 4, locals := ls, stack := .ref T.heap.size :: .ref T.heap.size :: rest, locked := none }) rfl hsize rfl rfl (rest := rest) rfl
    (by rw [hb]; exact d4) (by rw [hb]; exact d7) hout hRframes (by simp only [List.map_cons, List.sum_cons, hcat]; omega) hlocks
  obtain ⟨f1, f2⟩ := vx_frame hsame
  rw [hhp] at f1 f2
  have hWs : s.WarmedH U.vm := State.WarmedH.trans hW0 hW
  have hcl : s.vm.findClass cls = some ce.cls := by
    have h9 := hO.cls
    rw [hvm] at h9
    exact h9
  have hall : s.sameButNew ({ U with vm := s.vm } : State) locs mc ms := by
    subst hA
    obtain ⟨e1, e2⟩ := hsame
    rw [State.setFrames_setFrames] at e1
    have h2 : (T.setVm s.vm).sameButNew ({ U with vm := s.vm } : State) [] (0 + 1) (0 + 6) := ⟨e1, e2⟩
    have h3 := X.same.trans h2
    rw [List.append_nil] at h3
    exact h3.mono hc hs
  refine ⟨U, ?_, .threw T.heap.size, hrun, hend, Or.inr ⟨T.heap.size, rfl, cls, ce, locs, hx U hWs.alike f1 (fun q hq => f2 q hq (fun z hz => nomatch hz)), hce, hO.vm, hcl, hWs, hall, hf⟩⟩
  refine st1 _ ?_
  show Steps p.tables e below (T1.setTop { method := m, pc := pc + 3, locals := ls, stack := .ref T.heap.size :: rest, locked := none }) _
  jvm_step X₁.here [X₁.here.top, hexec, d3', Value.category]
  exact hsteps
/-- 'throw new E("text")': new; dup; ldc; invokespecial; athrow -/
theorem vx_throwS {cc : ByteArray} {pc : Nat} (hexec : p.tables.exec = Jvm.exec) (hb : c.code = cc) (hl : l.stackTraces = false) {own cls text : String} {names : List String} {ik is ic mc ms sa : Nat} {A : Nat → Prop}
    (hown : s.vm.findClass own = some m.cls) (hcls : Bundle.fit cls = true) (hnames : ∀ n ∈ names, Bundle.fit n = true)
    (hk : (Cond.classLink own ik cls).before args s = true) (hini : (Cond.initialized cls).before args s = true) (hstr : vk_R own is text sa s) (hat : ∀ w ∈ vx_atS own ic cls names, w.before args s = true)
    (hgood : ∀ w ∈ Cond.classLink own ik cls :: Cond.initialized cls :: vx_atS own ic cls names, vx_ot w = true)
    (hU : vx_Zq Bundle.tN "UNASSIGNED_STACK" Bundle.steD A s s.heap) (hN : vx_Zq Bundle.tN "SUPPRESSED_SENTINEL" Bundle.listD A s s.heap) (hS : va_S A s.heap H locs) (hsize : ls.size = c.maxLocals)
    (d0 : decode cc pc = .ok (.new ik, 3)) (d3 : decode cc (pc + 3) = .ok (.dup, 1)) (d4 : decode cc (pc + 4) = .ok (.ldc is, 2)) (d6 : decode cc (pc + 6) = .ok (.invokespecial ic, 3)) (d9 : decode cc (pc + 9) = .ok (.athrow, 1))
    (hout : ∀ x ∈ c.exceptionTable.toList, covers x (pc + 9) = false)
    (hRframes : names.length + 3 < R.frames) (hRlocals : (rest.map fun v => v.category).sum + (13 * (names.length + 1) + 43) ≤ R.locals) (hRcells : cells + 1 ≤ R.cells) (hRslots : slots + 6 ≤ R.slots) (hlocks : meth.locks = false)
    (hx : ∀ t : State, s.vm.Alike t.vm → H.size ≤ t.heap.size → (∀ q : Nat, q < H.size → t.heap[q]? = H[q]?) → XC cls s t)
    (hf : ∀ z ∈ locs, free z.base) (hc : cells + 1 ≤ mc) (hs : slots + 6 ≤ ms) :
    W p l e R s m args below meth c H locs cells slots (vx_MQ below Qc XC args s mc ms free) (F0 m pc ls rest) := by
  intro T hT X
  have htr : e.platform.stackTraces = false := (show e.platform.stackTraces = l.stackTraces by rw [X.admits.platform]).trans hl
  have Y := vx_rebase X (R' := { frames := R.frames, locals := R.locals, cells := 1, slots := 6 }) (Nat.le_refl _) (Nat.le_refl _) hRcells hRslots
  obtain ⟨s', hA⟩ : ∃ z, z = (T.setVm s.vm).setFrames (.invoking m args :: below) := ⟨_, rfl⟩
  rw [← hA] at Y
  have hvm : s'.vm = s.vm := by rw [hA]; rfl
  have hhp : s'.heap = H := by rw [hA]; exact hT
  have hW0 : s.WarmedH s'.vm := by rw [hvm]; exact State.WarmedH.refl s
  have hat' : ∀ w ∈ vx_atS own ic cls names, w.before args s' = true := fun w hw => vx_ot_at hW0 hvm.symm (hgood w (List.mem_cons_of_mem _ (List.mem_cons_of_mem _ hw))) (hat w hw)
  have hk' : (Cond.classLink own ik cls).before args s' = true := vx_ot_at hW0 hvm.symm (hgood _ List.mem_cons_self) hk
  have hini' : (Cond.initialized cls).before args s' = true := vx_ot_at hW0 hvm.symm (hgood _ (List.mem_cons_of_mem _ List.mem_cons_self)) hini
  have hU' : vx_Zq Bundle.tN "UNASSIGNED_STACK" Bundle.steD A s' s'.heap := by rw [hhp]; exact vx_Zq.moved hW0.alike (hU.kept hS.2.1)
  have hN' : vx_Zq Bundle.tN "SUPPRESSED_SENTINEL" Bundle.listD A s' s'.heap := by rw [hhp]; exact vx_Zq.moved hW0.alike (hN.kept hS.2.1)
  have h : ∀ w ∈ Bundle.ownAtoms own ic cls names, w.before args s' = true := vx_own hat' (vx_isRefq hU'.1) (vx_isRefq hN'.1) hU'.2.word hN'.2.word
  have hown' : s'.vm.findClass own = some m.cls := by rw [hvm]; exact hown
  have hins : (Cond.instantiable cls 6).before args s' = true := h _ (by simp [Bundle.ownAtoms])
  obtain ⟨vm₁, cX, kX, hfX, hkX, -, -, X₁, st1⟩ := Y.newCold hexec (own := own) (C := cls) (index := ik) (n := 6) hown' hk' hins hini'
    (g := F0 m pc ls rest) rfl (by rw [hb]; exact d0) (Nat.le_refl _) (Nat.le_refl _)
  generalize hT1 : (T.setVm vm₁).pushCell { cls := cX, slots := kX.instanceTypes.map defaultValue, vm := .none } = T1 at X₁ st1
  have hcat : (Value.ref T.heap.size).category = 1 := rfl
  have hcellA : T1.heap[T.heap.size]? = some (freshCell cX kX) := by rw [← hT1]; exact State.heap_pushCell_size _ _
  have d3' : decode c.code (pc + 3) = .ok (.dup, 1) := by rw [hb]; exact d3
  have d4' : decode c.code (pc + 4) = .ok (.ldc is, 2) := by rw [hb]; exact d4
  have hstr' : vk_R own is text sa s' := vk_R.warm hW0 hstr
  obtain ⟨U, hsteps, hrun, hend, hW, hsame, ce, hce, hO⟩ := X₁.ctorThrowS hexec htr (own := own) (cls := cls) (names := names) (ic := ic) hown' hcls hnames h (fun x hx => nomatch hx) hfX hkX hcellA (by rw [hhp, hT]; exact Nat.le_refl _) (msg := .ref sa) rfl
    (g := { method := m, pc := pc + 6, locals := ls, stack := .ref sa :: .ref T.heap.size :: .ref T.heap.size :: rest, locked := none }) rfl hsize rfl rfl (rest := rest) rfl
    (by rw [hb]; exact d6) (by rw [hb]; exact d9) hout hRframes (by simp only [List.map_cons, List.sum_cons, hcat]; omega) hlocks
  obtain ⟨f1, f2⟩ := vx_frame hsame
  rw [hhp] at f1 f2
  have hWs : s.WarmedH U.vm := State.WarmedH.trans hW0 hW
  have hcl : s.vm.findClass cls = some ce.cls := by
    have h9 := hO.cls
    rw [hvm] at h9
    exact h9
  have hall : s.sameButNew ({ U with vm := s.vm } : State) locs mc ms := by
    subst hA
    obtain ⟨e1, e2⟩ := hsame
    rw [State.setFrames_setFrames] at e1
    have h2 : (T.setVm s.vm).sameButNew ({ U with vm := s.vm } : State) [] (0 + 1) (0 + 6) := ⟨e1, e2⟩
    have h3 := X.same.trans h2
    rw [List.append_nil] at h3
    exact h3.mono hc hs
  refine ⟨U, ?_, .threw T.heap.size, hrun, hend, Or.inr ⟨T.heap.size, rfl, cls, ce, locs, hx U hWs.alike f1 (fun q hq => f2 q hq (fun z hz => nomatch hz)), hce, hO.vm, hcl, hWs, hall, hf⟩⟩
  refine st1 _ ?_
  show Steps p.tables e below (T1.setTop { method := m, pc := pc + 3, locals := ls, stack := .ref T.heap.size :: rest, locked := none }) _
  jvm_step X₁.here [X₁.here.top, hexec, d3', Value.category]
  exact X₁.ldcString hexec (own := own) (text := text) (index := is) (a := sa) hown' hstr'.1 hstr'.2
    (g := { method := m, pc := pc + 4, locals := ls, stack := .ref T.heap.size :: .ref T.heap.size :: rest, locked := none }) rfl d4' _ hsteps
/-- 'throw new E("text")', the text by a wide index -/
theorem vx_throwSW {cc : ByteArray} {pc : Nat} (hexec : p.tables.exec = Jvm.exec) (hb : c.code = cc) (hl : l.stackTraces = false) {own cls text : String} {names : List String} {ik is ic mc ms sa : Nat} {A : Nat → Prop}
    (hown : s.vm.findClass own = some m.cls) (hcls : Bundle.fit cls = true) (hnames : ∀ n ∈ names, Bundle.fit n = true)
    (hk : (Cond.classLink own ik cls).before args s = true) (hini : (Cond.initialized cls).before args s = true) (hstr : vk_R own is text sa s) (hat : ∀ w ∈ vx_atS own ic cls names, w.before args s = true)
    (hgood : ∀ w ∈ Cond.classLink own ik cls :: Cond.initialized cls :: vx_atS own ic cls names, vx_ot w = true)
    (hU : vx_Zq Bundle.tN "UNASSIGNED_STACK" Bundle.steD A s s.heap) (hN : vx_Zq Bundle.tN "SUPPRESSED_SENTINEL" Bundle.listD A s s.heap) (hS : va_S A s.heap H locs) (hsize : ls.size = c.maxLocals)
    (d0 : decode cc pc = .ok (.new ik, 3)) (d3 : decode cc (pc + 3) = .ok (.dup, 1)) (d4 : decode cc (pc + 4) = .ok (.ldc_w is, 3)) (d7 : decode cc (pc + 7) = .ok (.invokespecial ic, 3)) (d10 : decode cc (pc + 10) = .ok (.athrow, 1))
    (hout : ∀ x ∈ c.exceptionTable.toList, covers x (pc + 10) = false)
    (hRframes : names.length + 3 < R.frames) (hRlocals : (rest.map fun v => v.category).sum + (13 * (names.length + 1) + 43) ≤ R.locals) (hRcells : cells + 1 ≤ R.cells) (hRslots : slots + 6 ≤ R.slots) (hlocks : meth.locks = false)
    (hx : ∀ t : State, s.vm.Alike t.vm → H.size ≤ t.heap.size → (∀ q : Nat, q < H.size → t.heap[q]? = H[q]?) → XC cls s t)
    (hf : ∀ z ∈ locs, free z.base) (hc : cells + 1 ≤ mc) (hs : slots + 6 ≤ ms) :
    W p l e R s m args below meth c H locs cells slots (vx_MQ below Qc XC args s mc ms free) (F0 m pc ls rest) := by
  intro T hT X
  have htr : e.platform.stackTraces = false := (show e.platform.stackTraces = l.stackTraces by rw [X.admits.platform]).trans hl
  have Y := vx_rebase X (R' := { frames := R.frames, locals := R.locals, cells := 1, slots := 6 }) (Nat.le_refl _) (Nat.le_refl _) hRcells hRslots
  obtain ⟨s', hA⟩ : ∃ z, z = (T.setVm s.vm).setFrames (.invoking m args :: below) := ⟨_, rfl⟩
  rw [← hA] at Y
  have hvm : s'.vm = s.vm := by rw [hA]; rfl
  have hhp : s'.heap = H := by rw [hA]; exact hT
  have hW0 : s.WarmedH s'.vm := by rw [hvm]; exact State.WarmedH.refl s
  have hat' : ∀ w ∈ vx_atS own ic cls names, w.before args s' = true := fun w hw => vx_ot_at hW0 hvm.symm (hgood w (List.mem_cons_of_mem _ (List.mem_cons_of_mem _ hw))) (hat w hw)
  have hk' : (Cond.classLink own ik cls).before args s' = true := vx_ot_at hW0 hvm.symm (hgood _ List.mem_cons_self) hk
  have hini' : (Cond.initialized cls).before args s' = true := vx_ot_at hW0 hvm.symm (hgood _ (List.mem_cons_of_mem _ List.mem_cons_self)) hini
  have hU' : vx_Zq Bundle.tN "UNASSIGNED_STACK" Bundle.steD A s' s'.heap := by rw [hhp]; exact vx_Zq.moved hW0.alike (hU.kept hS.2.1)
  have hN' : vx_Zq Bundle.tN "SUPPRESSED_SENTINEL" Bundle.listD A s' s'.heap := by rw [hhp]; exact vx_Zq.moved hW0.alike (hN.kept hS.2.1)
  have h : ∀ w ∈ Bundle.ownAtoms own ic cls names, w.before args s' = true := vx_own hat' (vx_isRefq hU'.1) (vx_isRefq hN'.1) hU'.2.word hN'.2.word
  have hown' : s'.vm.findClass own = some m.cls := by rw [hvm]; exact hown
  have hins : (Cond.instantiable cls 6).before args s' = true := h _ (by simp [Bundle.ownAtoms])
  obtain ⟨vm₁, cX, kX, hfX, hkX, -, -, X₁, st1⟩ := Y.newCold hexec (own := own) (C := cls) (index := ik) (n := 6) hown' hk' hins hini'
    (g := F0 m pc ls rest) rfl (by rw [hb]; exact d0) (Nat.le_refl _) (Nat.le_refl _)
  generalize hT1 : (T.setVm vm₁).pushCell { cls := cX, slots := kX.instanceTypes.map defaultValue, vm := .none } = T1 at X₁ st1
  have hcat : (Value.ref T.heap.size).category = 1 := rfl
  have hcellA : T1.heap[T.heap.size]? = some (freshCell cX kX) := by rw [← hT1]; exact State.heap_pushCell_size _ _
  have d3' : decode c.code (pc + 3) = .ok (.dup, 1) := by rw [hb]; exact d3
  have d4' : decode c.code (pc + 4) = .ok (.ldc_w is, 3) := by rw [hb]; exact d4
  have hstr' : vk_R own is text sa s' := vk_R.warm hW0 hstr
  obtain ⟨U, hsteps, hrun, hend, hW, hsame, ce, hce, hO⟩ := X₁.ctorThrowS hexec htr (own := own) (cls := cls) (names := names) (ic := ic) hown' hcls hnames h (fun x hx => nomatch hx) hfX hkX hcellA (by rw [hhp, hT]; exact Nat.le_refl _) (msg := .ref sa) rfl
    (g := { method := m, pc := pc + 7, locals := ls, stack := .ref sa :: .ref T.heap.size :: .ref T.heap.size :: rest, locked := none }) rfl hsize rfl rfl (rest := rest) rfl
    (by rw [hb]; exact d7) (by rw [hb]; exact d10) hout hRframes (by simp only [List.map_cons, List.sum_cons, hcat]; omega) hlocks
  obtain ⟨f1, f2⟩ := vx_frame hsame
  rw [hhp] at f1 f2
  have hWs : s.WarmedH U.vm := State.WarmedH.trans hW0 hW
  have hcl : s.vm.findClass cls = some ce.cls := by
    have h9 := hO.cls
    rw [hvm] at h9
    exact h9
  have hall : s.sameButNew ({ U with vm := s.vm } : State) locs mc ms := by
    subst hA
    obtain ⟨e1, e2⟩ := hsame
    rw [State.setFrames_setFrames] at e1
    have h2 : (T.setVm s.vm).sameButNew ({ U with vm := s.vm } : State) [] (0 + 1) (0 + 6) := ⟨e1, e2⟩
    have h3 := X.same.trans h2
    rw [List.append_nil] at h3
    exact h3.mono hc hs
  refine ⟨U, ?_, .threw T.heap.size, hrun, hend, Or.inr ⟨T.heap.size, rfl, cls, ce, locs, hx U hWs.alike f1 (fun q hq => f2 q hq (fun z hz => nomatch hz)), hce, hO.vm, hcl, hWs, hall, hf⟩⟩
  refine st1 _ ?_
  show Steps p.tables e below (T1.setTop { method := m, pc := pc + 3, locals := ls, stack := .ref T.heap.size :: rest, locked := none }) _
  jvm_step X₁.here [X₁.here.top, hexec, d3', Value.category]
  exact X₁.ldcStringW hexec (own := own) (text := text) (index := is) (a := sa) hown' hstr'.1 hstr'.2
    (g := { method := m, pc := pc + 4, locals := ls, stack := .ref T.heap.size :: .ref T.heap.size :: rest, locked := none }) rfl d4' _ hsteps
end Ends
section Bodies
variable {l : Launch}
theorem vx_ofW {y : MethodName} {ws ws' : List Cond} {rm : Room} {Pc : Array Value → State → Prop} {Qc : Array Value → State → Outcome → State → Prop} {XC : String → State → State → Prop} {mc ms : Nat} {free : Addr → Prop} {cc : ByteArray} {maxL : Nat} {ret : Option FieldType}
    (hy : plainName y.cls = true) (hw : ws = Cond.code y cc maxL ret :: ws')
    (body : ∀ p e s m args below meth c s₁, BodyLoose p l y (headSpec ws rm) cc maxL ret e s m args below meth c s₁ → c.maxLocals = maxL → (∀ x ∈ c.exceptionTable.toList, False) → Pc args s →
      W p l e (headSpec ws rm).room s m args below meth c s.heap [] 0 0 (vx_MQ below Qc XC args s mc ms free) (entryFrame m args maxL)) : vx_Met l y ws rm Pc Qc XC mc ms free := by
  refine MetFree.of_bodyS (code := cc) (maxLocals := maxL) (ret := ret) hy ?_ ?_
  · intro args s m h hn
    obtain ⟨meth, c, h1, h2, h3, h4, h5, h6, -, -⟩ := Cond.code_spec hn (atoms_spec (ws := ws) h _ (by rw [hw]; exact List.mem_cons_self))
    exact ⟨meth, c, h1, h2, h3, h4, h5, h6⟩
  · intro p e s m args below meth c s₁ B hml hP _
    have hh0 : s₁.heap = s.heap := by rw [B.state]; rfl
    have ht : ∀ x ∈ c.exceptionTable.toList, False := by
      obtain ⟨meth9, c9, h1, h2, -, -, -, -, h7, -⟩ := Cond.code_spec B.named (atoms_spec (ws := ws) B.pre _ (by rw [hw]; exact List.mem_cons_self))
      cases Option.some.inj (h1.symm.trans B.method)
      cases Option.some.inj (h2.symm.trans (Stand.of_body B).code)
      intro x hx
      rw [Array.isEmpty_iff.mp h7] at hx
      cases hx
    obtain ⟨t, a1, o, b1, b2, b3⟩ := body p e s m args below meth c s₁ B hml ht hP s₁ hh0 (Stand.of_body B)
    exact ⟨t, o, a1, b1, b2, b3⟩
/-- the table of a body with handlers -/
theorem vx_table {p : Program} {x y : MethodName} {S : Spec} {cc bytes : ByteArray} {maxL maxL' : Nat} {ret ret' : Option FieldType} {e : Env} {s s₁ : State} {m : MethodId} {args : Array Value} {below : List Frame} {meth : Method} {c : Code} {hh : List (Nat × Nat × Nat × Nat)}
    (B : BodyLoose p l y S cc maxL ret e s m args below meth c s₁) (h : (Cond.codeWith y bytes maxL' ret' hh).before args s = true) : c.exceptionTable.toList = tableOf hh := by
  obtain ⟨m9, meth9, c9, hn9, h1, h2, -, -, h6, -⟩ := Cond.codeWith_spec h
  cases Option.some.inj (hn9.symm.trans B.named)
  cases Option.some.inj (h1.symm.trans B.method)
  cases Option.some.inj (h2.symm.trans (Stand.of_body B).code)
  rw [← h6, table_eq]
end Bodies
end VXA
/-! ===== END ===== -/
/-! ===== BEGIN a static call of a method with an exception table ===== -/
section VXS
variable {p : Program} {l : Launch} {e : Env} {R : Room} {s : State} {m : MethodId} {args : Array Value} {below : List Frame} {meth : Method} {c : Code} {T : State} {H : Heap} {locs : List Loc} {cells slots : Nat}
abbrev vx_CSW (R : Room) (s : State) (args : Array Value) (own : String) (index : Nat) (y : MethodName) (bytes : ByteArray) (maxL : Nat) (ret : Option FieldType) (hh : List (Nat × Nat × Nat × Nat)) (ws : List Cond) (rm : Room) (mc ms n : Nat) : Prop :=
  (rm.cells = mc ∧ rm.slots = ms ∧ rm.frames + 1 ≤ R.frames ∧ 8 + (maxL + 11) + rm.locals ≤ R.locals ∧ (∀ w ∈ ws, ∀ (a' : Array Value) (U : State), s.WarmedH U.vm → w.before a' U = true) ∧ Cond.codeWith y bytes maxL ret hh ∈ ws) ∧
  (Cond.codeWith y bytes maxL ret hh).before args s = true ∧ (Cond.initialized y.cls).before args s = true ∧ (y.cls ≠ "java/lang/invoke/MethodHandle" ∧ y.cls ≠ "java/lang/invoke/VarHandle") ∧
  (∀ sig, parseMethodDescriptor y.desc = some sig → n = sig.parameters.length) ∧ (Cond.methodLink own index y).before args s = true ∧ (Cond.static y).before args s = true
theorem vx_cwSW {own : String} {index maxL mc ms : Nat} {y : MethodName} {bytes : ByteArray} {ret : Option FieldType} {hh : List (Nat × Nat × Nat × Nat)} {Ts ws ws' : List Cond} {rm : Room} (n : Nat) (ht : ∀ w ∈ Ts, w.before args s = true) (hT : GoodIn Ts (va_wsS own index y ws)) (hw : ws = Cond.codeWith y bytes maxL ret hh :: ws') (hrc : rm.cells = mc) (hrs : rm.slots = ms)
    (hd : y.cls ≠ "java/lang/invoke/MethodHandle" ∧ y.cls ≠ "java/lang/invoke/VarHandle" ∧ (parseMethodDescriptor y.desc).map (fun d => d.parameters.length) = some n) (hR : rm.frames + 1 ≤ R.frames ∧ 8 + (maxL + 11) + rm.locals ≤ R.locals) :
    vx_CSW R s args own index y bytes maxL ret hh ws rm mc ms n := by
  have ok : ∀ w ∈ va_wsS own index y ws, w.before args s = true := fun w h => ht w (hT w h).1
  have hG : GoodIn Ts ws := fun w h => hT w (by unfold va_wsS; exact List.mem_append_right _ h)
  have hc : Cond.codeWith y bytes maxL ret hh ∈ ws := by rw [hw]; exact List.mem_cons_self
  refine ⟨⟨hrc, hrs, hR.1, hR.2, pay_in ht hG, hc⟩, ht _ (hG _ hc).1, ok _ (by simp [va_wsS]), ⟨hd.1, hd.2.1⟩, fun sig h => ?_, ok _ (by simp [va_wsS]), ok _ (by simp [va_wsS])⟩
  have h2 := hd.2.2
  rw [h] at h2
  exact (Option.some.inj h2).symm
theorem vx_callSW (X : Stand p l e R s m args below meth c T locs cells slots) (hexec : p.tables.exec = Jvm.exec) {own : String} {index : Nat} {y : MethodName} {bytes : ByteArray} {maxL : Nat} {ret : Option FieldType} {hh : List (Nat × Nat × Nat × Nat)}
    (hown : s.vm.findClass own = some m.cls) (hlink : (Cond.methodLink own index y).before args s = true) (hstat : (Cond.static y).before args s = true) (hinit : (Cond.initialized y.cls).before args s = true)
    (hcode : (Cond.codeWith y bytes maxL ret hh).before args s = true) (hy : y.cls ≠ "java/lang/invoke/MethodHandle" ∧ y.cls ≠ "java/lang/invoke/VarHandle")
    {W9 : Nat} {Pre : Pt → Array Value → Prop} {Post : Pt → Array Value → Option Value → Pt → Prop} (hK : Back l R p e below s args y 3 W9 Pre Post)
    {g : JFrame} (hg : g.method = m) (hsize : g.locals.size = c.maxLocals) {argsL rest : List Value} (hlen : ∀ sig, parseMethodDescriptor y.desc = some sig → argsL.length = sig.parameters.length)
    (hstack : g.stack = argsL.reverse ++ rest) (hW : 2 * g.monitorRoom + (rest.map fun v => v.category).sum ≤ W9) (hdg : decode c.code g.pc = .ok (.invokestatic index, 3))
    (hpre : ∀ vm₁, s.WarmedH vm₁ → Pre ⟨T.setVm vm₁, locs, cells, slots⟩ argsL.toArray) :
    ∃ (v : Option Value) (vm₁ : Vm) (B : Pt), s.WarmedH vm₁ ∧ Stand p l e R s m args below meth c B.U B.locs B.cells B.slots ∧ Post ⟨T.setVm vm₁, locs, cells, slots⟩ argsL.toArray v B ∧
      ∀ target, Steps p.tables e below (B.U.setTop { g with pc := g.pc + 3, stack := v.toList ++ rest }) target → Steps p.tables e below (T.setTop g) target := by
  obtain ⟨mk, methM, cM, hnamed, hmethM, -, -, -, -, -, -, hsigM⟩ := Cond.codeWith_spec hcode
  have hstatic : methM.isStatic = true := Cond.static_spec hnamed hmethM hstat
  obtain ⟨kP, hkP, -⟩ := className_of_methodNamed hnamed
  have hinitP : kP.init = .initialized := Cond.initialized_spec (findClass_of_methodNamed hnamed) hkP hinit
  obtain ⟨vm₁, X₁, hstep₁⟩ := X.invokestatic hexec hown hlink hnamed hmethM hstatic hkP hinitP hy (g := g) hg (argsL := argsL) (rest := rest) (hlen _ hsigM) hstack hdg
  obtain ⟨v, B, X', hpost, hsteps⟩ := hK m meth c ⟨T.setVm vm₁, locs, cells, slots⟩ { g with stack := rest } (.invokestatic index) mk argsL.toArray X₁ hg hsize hdg hW (X₁.named hnamed) (hpre vm₁ X₁.warmed)
  exact ⟨v, vm₁, B, X₁.warmed, X', hpost, fun target h => hstep₁ _ fun acts => by rw [doInvoke_state]; exact hsteps.trans h⟩
theorem vx_runSW {y : MethodName} {bytes cc : ByteArray} {maxL nL mc ms n index : Nat} {ret : Option FieldType} {hh : List (Nat × Nat × Nat × Nat)} {ws : List Cond} {rm : Room} {Pc : Array Value → State → Prop} {Qc : Array Value → State → Outcome → State → Prop} {free : Addr → Prop} {Ts : List Cond} {own : String} {As rest : List Value} {g : JFrame}
    (S : CallFix p m c cc nL s args Ts own) (hM : Met l y ws rm Pc Qc mc ms free) (cw : vx_CSW R s args own index y bytes maxL ret hh ws rm mc ms n) (hp : PreS s H Pc As)
    (hg : g.method = m) (hn : As.length = n) (hsize : g.locals.size = nL) (hstack : g.stack = As.reverse ++ rest) (hW : 2 * g.monitorRoom + (rest.map fun v => v.category).sum ≤ 8) (hdg : decode cc g.pc = .ok (.invokestatic index, 3)) (hf : cells + mc ≤ R.cells ∧ slots + ms ≤ R.slots) :
    va_Run p l e R s m args below meth c H locs cells slots mc ms g rest (Qc As.toArray) (free) := by
  obtain ⟨⟨hrc, hrs, hfr, hlo, hws, hcw⟩, hcode, hini, hy, hlen, hl, hstt⟩ := cw
  have hK : Back l R p e below s args y 3 8 (PreOf R mc ms Pc) (PostOf Qc mc ms free) := va_backW (hh := hh) (bytes := bytes) (maxL := maxL) (ret := ret) hM hp.1 hrc hrs hfr hlo hws hcw (fun a' U hW => word_at hW (Or.inl (by first | rfl | simp [Cond.onTables, Cond.keeps, Cond.steady])) hini)
  obtain ⟨hx, hb, hml, ho, -⟩ := S
  intro T hT X
  obtain ⟨v, vm₁, ⟨U', l2, c2, s2⟩, hW₁, X', ⟨g', mk, t, L, e1, e2, hq, h1, hL, h2, h3⟩, st⟩ := vx_callSW X hx (hh := hh) (bytes := bytes) (maxL := maxL) (ret := ret) ho hl hstt hini hcode hy hK hg (hsize.trans hml.symm) (argsL := As) (rest := rest) (fun sig h => hn.trans (hlen sig h)) hstack hW (by rw [hb]; exact hdg)
    (fun vm₁ hW₁ => ⟨hf.1, hf.2, hp.2 (T.setVm vm₁) hT hW₁⟩)
  dsimp only [Pt.U, Pt.locs, Pt.cells, Pt.slots] at X' e1 e2 h1 h2 h3 st
  subst h1; subst h2; subst h3
  exact ⟨v, (T.setVm vm₁).calling g' mk As.toArray, t, U', L, hT, X', hL, e1, e2, hq, st⟩
/-- not caught here, past rows that name other classes: it goes on to the caller -/
theorem vx_outP {p : Program} {l : Launch} {e : Env} {R : Room} {s : State} {m : MethodId} {args : Array Value} {below : List Frame} {meth : Method} {c : Code} {H : Heap} {locs : List Loc} {cells slots : Nat} {free : Addr → Prop} {ls : Array Slot} {rest : List Value} {Qc : Array Value → State → Outcome → State → Prop} {XC : String → State → State → Prop}
    {pc : Nat} {own E : String} {ce : Cell} {q : Addr} {mc ms : Nat} (hown : s.vm.findClass own = some m.cls) (hlocks : meth.locks = false)
    (hpass : ∀ z ∈ c.exceptionTable.toList, covers z pc = false ∨ (z.catchType ≠ 0 ∧ ∃ nm : String, (Cond.classLink own z.catchType nm).before args s = true ∧ va_Nc E nm s)) (hcell : H[q]? = some ce) (hv : ce.vm = .none) (hcl : s.vm.findClass E = some ce.cls)
    (hx : ∀ t : State, t.heap = H → s.vm.Alike t.vm → XC E s t) (hf : ∀ z ∈ locs, free z.base) (hc : cells ≤ mc) (hs : slots ≤ ms) :
    vx_W p l e R s m args below meth c H locs cells slots (vx_MQ below Qc XC args s mc ms free) (F0 m pc ls rest) q := by
  intro T hT X
  have hpl : e.platform.magicAccessors = ({} : Platform).magicAccessors := by rw [X.admits.platform]
  obtain ⟨vm', hW', X', st⟩ := X.outThrough hlocks q (g := F0 m pc ls rest) rfl rfl rfl (cell := ce) (by rw [hT]; exact hcell) (by rw [hv]; rfl)
    (by obtain ⟨k9, h9, -⟩ := Vm.findClass_spec hcl; exact ⟨k9, h9⟩) (fun z hz => by
      rcases hpass z hz with h | ⟨hz0, nm, hl1, hn1⟩
      · exact Or.inl h
      · obtain ⟨c6, hc6, hcl6⟩ := Cond.classLink_spec hown hl1 e.platform hpl
        obtain ⟨a8, b8, h1, h2, h3⟩ := hn1
        cases Option.some.inj (h1.symm.trans hcl)
        cases Option.some.inj (h2.symm.trans hc6)
        exact Or.inr ⟨hz0, _, hcl6, h3⟩)
  obtain ⟨g₀, hfr⟩ := X'.frames_eq
  have hcell9 : ((T.setVm vm').setFrames (.throwing q :: below)).heap[q]? = some ce := by
    show T.heap[q]? = some ce
    rw [hT]; exact hcell
  have hend : Ended ((T.setVm vm').setFrames (.throwing q :: below)) below (.threw q) := State.frames_setFrames _ (State.cur_lt_of_frames hfr)
  refine ⟨(T.setVm vm').setFrames (.throwing q :: below), ?_, .threw q, X'.here.running, hend, Or.inr ⟨q, rfl, E, ce, locs, hx _ hT (X'.ends _).1.alike, hcell9, hv, hcl, (X'.ends _).1, (X'.ends _).2.mono hc hs, hf⟩⟩
  rw [X.pushThrowing_eq]
  exact st
/-- a thing of a world lies in the heap -/
theorem vx_lt {D : va_G} {cl : List vw_C} {ws : va_W} {H1 : Heap} (h : va_P D cl ws H1) {k : Nat} {q : Nat × va_E} (hk : ws[k]? = some q) : q.1 < H1.size := (h k q hk).lt
end VXS
/-! ===== END ===== -/
/-! ===== BEGIN methods with a table of their own: called by a name, returning or throwing ===== -/
section VXH
/-! vx_backW, vx_callVX, vx_callSX, vx_callVW, vx_runVW, vx_runVX, vx_runSX, vx_ofWH follow the same proofs as their sisters above (Free/Laws.lean, Shelf42/LK1.lean); vx_outP calls Shelf42/NT130.lean (outThrough). -/
section
variable {l : Launch} {R : Room} {p : Program} {e : Env} {below : List Frame} {s : State} {sargs : Array Value} {y : MethodName} {len W9 : Nat}
theorem vx_backW {ws : List Cond} {rm : Room} {Pc : Array Value → State → Prop} {Qc : Array Value → State → Outcome → State → Prop} {XC : String → State → State → Prop} {mc ms : Nat} {free : Addr → Prop} {bytes : ByteArray} {maxL : Nat} {ret : Option FieldType} {hh : List (Nat × Nat × Nat × Nat)}
    (hM : vx_Met l y ws rm Pc Qc XC mc ms free) (hblind : FrameBlind Pc) (hrc : rm.cells = mc) (hrs : rm.slots = ms)
    (hframes : rm.frames + 1 ≤ R.frames) (hlocals : W9 + (maxL + 11) + rm.locals ≤ R.locals)
    (hws : ∀ w ∈ ws, ∀ a' U, s.WarmedH U.vm → w.before a' U = true) (hcode : Cond.codeWith y bytes maxL ret hh ∈ ws) (hinit : ∀ a' U, s.WarmedH U.vm → (Cond.initialized y.cls).before a' U = true) :
    vx_Back l R p e below s sargs y len W9 (PreOf R mc ms Pc) (PostOf Qc mc ms free) (vx_Post XC mc ms free) := by
  intro m meth c A g ig mk a X hg hsize hdg hW hn hp
  have h1 : (headSpec ws rm).pre.before a A.U = true := atoms_intro fun w hw => hws w hw _ _ X.warmed
  have h2 : (Cond.codeWith y bytes maxL ret hh).before a A.U = true := hws _ hcode _ _ X.warmed
  have h3 : (Cond.initialized y.cls).before a A.U = true := hinit _ _ X.warmed
  have h4 : A.cells + (headSpec ws rm).room.cells ≤ R.cells := by rw [show (headSpec ws rm).room.cells = mc from hrc]; exact hp.1
  have h5 : A.slots + (headSpec ws rm).room.slots ≤ R.slots := by rw [show (headSpec ws rm).room.slots = ms from hrs]; exact hp.2.1
  have hPc : Pc a (A.U.calling g mk a) := hblind _ _ _ _ hp.2.2
  obtain ⟨U, Ls, c0, s0⟩ := A
  dsimp only [Pt.U, Pt.locs, Pt.cells, Pt.slots] at h1 h2 h3 h4 h5 X hn hPc ⊢
  obtain ⟨m9, methY, cY, hn9, hmY, hcY, -, hlY, -⟩ := Cond.codeWith_spec h2
  cases Option.some.inj (hn9.symm.trans hn)
  obtain ⟨kY, hkY, -⟩ := className_of_methodNamed hn
  have hinitY : kY.init = .initialized := Cond.initialized_spec (findClass_of_methodNamed hn) hkY h3
  have h : At U g.method c below := by rw [hg]; exact X.here
  have hlocals9 : W9 + (maxL + 11) + (headSpec ws rm).room.locals ≤ R.locals := hlocals
  have happ : (headSpec ws rm).appliesLoose y e.platform (U.calling g mk a) = true :=
    Spec.appliesLoose_calling (g := g) h hdg hn hkY hinitY
      (X.room_calling (g := g) (R' := (headSpec ws rm).room) hsize hmY hcY hframes (by rw [hlY]; omega) h4 h5) h1
  obtain ⟨mid, hmid⟩ := h.above
  have hfr : (U.setTop g).frames = (.java g :: mid) ++ below := by rw [State.frames_setTop' g h.top, hmid]; rfl
  obtain ⟨o, s₂, hsteps, -, hend, hq⟩ := Steps.callFree hM p X.admits X.cas X.clock (acts := []) hfr happ hPc trivial
  have hq' : vx_Q Qc XC mc ms free a (U.calling g mk a) o s₂ := hq
  rw [State.frames_setTop' g h.top] at hend
  obtain ⟨g₀, hg0⟩ := Option.isSome_iff_exists.mp h.top
  obtain ⟨r, hr⟩ := State.topJava?_eq_some.mp hg0
  have hr' : (({ U with heap := s₂.heap, slotsUsed := s₂.slotsUsed } : State).setVm s₂.vm).frames = .java g₀ :: r := hr
  rcases hq' with ⟨hqc, L, hfe, hL⟩ | ⟨q, rfl, E, ce, L, hx, hce, hcv, hcl, hW₂, hsm, hL⟩
  · obtain ⟨⟨v, rfl⟩, hW₂, e2, q2, q3, q4, q5, q6⟩ := id hfe
    have e3 : s₂ = ({ (U.calling g mk a).setFrames s₂.frames with heap := s₂.heap, slotsUsed := s₂.slotsUsed } : State).setVm s₂.vm := by
      have : s₂ = ({ s₂ with vm := (U.calling g mk a).vm } : State).setVm s₂.vm := rfl
      rw [e2] at this
      exact this
    obtain ⟨c₂, i₂, len₂, hc₂, hd₂, hf₂⟩ := hend
    have hW' : U.WarmedH s₂.vm := hW₂
    have hcc : c₂ = c := by
      have h1 : s₂.code? g.method = U.code? g.method := by
        rw [State.code?_eq, State.code?_eq, hW'.alike.method?]
      exact Option.some.inj (hc₂.symm.trans (h1.trans h.code))
    subst hcc
    have hlen : len₂ = len := by rw [hdg] at hd₂; cases hd₂; rfl
    subst hlen
    have hs₂ : s₂ = (({ U with heap := s₂.heap, slotsUsed := s₂.slotsUsed } : State).setVm s₂.vm).setTop { g with pc := g.pc + len₂, stack := v.toList ++ g.stack } := by
      refine e3.trans ?_
      rw [hf₂, State.calling_eq h.top, State.setFrames_setFrames, State.setTop_of_frames _ hr', hr]
      rfl
    have hsame : U.sameButNew ({ U with heap := s₂.heap, slotsUsed := s₂.slotsUsed } : State) L mc ms := by
      refine ⟨?_, q2, q3, q4, q5, q6⟩
      obtain ⟨t, ht, -⟩ := State.frames_cons hr
      show ({ U with heap := s₂.heap, slotsUsed := s₂.slotsUsed } : State) = { U.setFrames U.frames with heap := s₂.heap, slotsUsed := s₂.slotsUsed }
      rw [State.setFrames_self ht]
    subst hg
    refine Or.inl ⟨v, ⟨(({ U with heap := s₂.heap, slotsUsed := s₂.slotsUsed } : State).setVm s₂.vm), Ls ++ L, c0 + mc, s0 + ms⟩,
      ⟨X.admits, X.cas, X.clock, X.frames, X.room, X.hears, X.method, X.code, (X.here.setHeapUsed s₂.heap s₂.slotsUsed).setVm hW'.alike, X.tail, State.WarmedH.trans X.warmed hW', X.limits, X.bytes, X.same.trans (hsame.setVm s.vm)⟩,
      ⟨g, mk, s₂, L, rfl, rfl, hqc, rfl, hL, rfl, rfl⟩, ?_⟩
    show Steps p.tables e below _ ((({ U with heap := s₂.heap, slotsUsed := s₂.slotsUsed } : State).setVm s₂.vm).setTop { g with pc := g.pc + len₂, stack := v.toList ++ g.stack })
    rw [← hs₂]
    exact hsteps
  · obtain ⟨e2, q2, q3, q4, q5, q6⟩ := id hsm
    have e3 : s₂ = ({ (U.calling g mk a).setFrames s₂.frames with heap := s₂.heap, slotsUsed := s₂.slotsUsed } : State).setVm s₂.vm := by
      have : s₂ = ({ s₂ with vm := (U.calling g mk a).vm } : State).setVm s₂.vm := rfl
      rw [e2] at this
      exact this
    have hf₂ : s₂.frames = .throwing q :: .java g :: U.frames.tail := hend
    have hW' : U.WarmedH s₂.vm := hW₂
    have hs₂ : s₂ = ((({ U with heap := s₂.heap, slotsUsed := s₂.slotsUsed } : State).setVm s₂.vm).setTop g).pushFrame (.throwing q) := by
      refine e3.trans ?_
      rw [hf₂, State.calling_eq h.top, State.setFrames_setFrames, State.pushFrame, State.frames_setTop _ hr', State.setTop_of_frames _ hr', State.setFrames_setFrames, hr]
      rfl
    have hsame : U.sameButNew ({ U with heap := s₂.heap, slotsUsed := s₂.slotsUsed } : State) L mc ms := by
      refine ⟨?_, q2, q3, q4, q5, q6⟩
      obtain ⟨t, ht, -⟩ := State.frames_cons hr
      show ({ U with heap := s₂.heap, slotsUsed := s₂.slotsUsed } : State) = { U.setFrames U.frames with heap := s₂.heap, slotsUsed := s₂.slotsUsed }
      rw [State.setFrames_self ht]
    subst hg
    refine Or.inr ⟨q, ⟨(({ U with heap := s₂.heap, slotsUsed := s₂.slotsUsed } : State).setVm s₂.vm), Ls ++ L, c0 + mc, s0 + ms⟩,
      ⟨X.admits, X.cas, X.clock, X.frames, X.room, X.hears, X.method, X.code, (X.here.setHeapUsed s₂.heap s₂.slotsUsed).setVm hW'.alike, X.tail, State.WarmedH.trans X.warmed hW', X.limits, X.bytes, X.same.trans (hsame.setVm s.vm)⟩,
      ⟨g, mk, s₂, L, E, ce, rfl, rfl, hx, hce, hcv, hcl, rfl, hL, rfl, rfl⟩, ?_⟩
    show Steps p.tables e below _ (((({ U with heap := s₂.heap, slotsUsed := s₂.slotsUsed } : State).setVm s₂.vm).setTop g).pushFrame (.throwing q))
    rw [← hs₂]
    exact hsteps
end
variable {p : Program} {l : Launch} {e : Env} {R : Room} {s : State} {m : MethodId} {args : Array Value} {below : List Frame} {meth : Method} {c : Code} {T : State} {H : Heap} {locs : List Loc} {cells slots : Nat}
theorem vx_callVX (X : Stand p l e R s m args below meth c T locs cells slots) (hexec : p.tables.exec = Jvm.exec) {own C : String} {index : Nat} {y : MethodName} {bytes : ByteArray} {maxL : Nat} {ret : Option FieldType} {hh : List (Nat × Nat × Nat × Nat)}
    (hown : s.vm.findClass own = some m.cls) (hlink : (Cond.methodLink own index y).before args s = true) (hinst : (Cond.instanceMethod y).before args s = true) (hsel : (Cond.selects C y y).before args s = true)
    (hcode : (Cond.codeWith y bytes maxL ret hh).before args s = true) (hy : y.cls ≠ "java/lang/invoke/MethodHandle" ∧ y.cls ≠ "java/lang/invoke/VarHandle")
    {W9 : Nat} {Pre : Pt → Array Value → Prop} {Post : Pt → Array Value → Option Value → Pt → Prop} {PostX : Pt → Array Value → Addr → Pt → Prop} (hK : vx_Back l R p e below s args y 3 W9 Pre Post PostX)
    {b : Addr} {cellB : Cell} (hcell : T.heap[b]? = some cellB) (hobj : cellB.vm.isStatics = false) (hcls : s.vm.findClass C = some cellB.cls)
    {g : JFrame} (hg : g.method = m) (hsize : g.locals.size = c.maxLocals) {argsL rest : List Value} (hlen : ∀ sig, parseMethodDescriptor y.desc = some sig → argsL.length = sig.parameters.length)
    (hstack : g.stack = argsL.reverse ++ .ref b :: rest) (hW : 2 * g.monitorRoom + (rest.map fun v => v.category).sum ≤ W9) (hdg : decode c.code g.pc = .ok (.invokevirtual index, 3))
    (hpre : ∀ vm₁, s.WarmedH vm₁ → Pre ⟨T.setVm vm₁, locs, cells, slots⟩ (Value.ref b :: argsL).toArray) :
    (∃ (v : Option Value) (vm₁ : Vm) (B : Pt), s.WarmedH vm₁ ∧ Stand p l e R s m args below meth c B.U B.locs B.cells B.slots ∧ Post ⟨T.setVm vm₁, locs, cells, slots⟩ (Value.ref b :: argsL).toArray v B ∧
      ∀ target, Steps p.tables e below (B.U.setTop { g with pc := g.pc + 3, stack := v.toList ++ rest }) target → Steps p.tables e below (T.setTop g) target) ∨
    (∃ (q : Addr) (vm₁ : Vm) (B : Pt), s.WarmedH vm₁ ∧ Stand p l e R s m args below meth c B.U B.locs B.cells B.slots ∧ PostX ⟨T.setVm vm₁, locs, cells, slots⟩ (Value.ref b :: argsL).toArray q B ∧
      Steps p.tables e below (T.setTop g) ((B.U.setTop { g with stack := rest }).pushFrame (.throwing q))) := by
  obtain ⟨mk, methM, hnamed, hmethM, hstM, habM⟩ := Cond.instanceMethod_spec hinst
  obtain ⟨m8, methM', cM, hn8, hmethM', -, -, -, -, -, -, hsigM⟩ := Cond.codeWith_spec hcode
  cases Option.some.inj (hn8.symm.trans hnamed)
  cases hmethM.symm.trans hmethM'
  obtain ⟨c2, r2, m2, q1, q2, q3, q4, kP, hkP, hkPi⟩ := Cond.selects_spec hsel
  cases hcls.symm.trans q1
  cases (State.methodFound?_of_named hnamed hy).symm.trans q2
  cases hnamed.symm.trans q3
  have hselP : selectMethod e.platform s.vm cellB.cls mk = .method mk := by rw [Launch.admits_selectMethod X.admits]; exact q4
  obtain ⟨vm₁, X₁, hstep₁⟩ := X.invokevirtual hexec hown hlink hnamed hmethM hstM hkP hkPi hy (a := b) (cell := cellB) hcell
    (fun z h => by rw [h] at hobj; cases hobj) hselP hmethM habM hkP hkPi (g := g) hg (argsL := argsL) (rest := rest) (hlen _ hsigM) hstack hdg
  rcases hK m meth c ⟨T.setVm vm₁, locs, cells, slots⟩ { g with stack := rest } (.invokevirtual index) mk (Value.ref b :: argsL).toArray X₁ hg hsize hdg hW (X₁.named hnamed) (hpre vm₁ X₁.warmed) with ⟨v, B, X', hpost, hsteps⟩ | ⟨q, B, X', hpost, hsteps⟩
  · exact Or.inl ⟨v, vm₁, B, X₁.warmed, X', hpost, fun target h => hstep₁ _ fun acts => by rw [doInvoke_state]; exact hsteps.trans h⟩
  · exact Or.inr ⟨q, vm₁, B, X₁.warmed, X', hpost, hstep₁ _ fun acts => by rw [doInvoke_state]; exact hsteps⟩
theorem vx_callSX (X : Stand p l e R s m args below meth c T locs cells slots) (hexec : p.tables.exec = Jvm.exec) {own : String} {index : Nat} {y : MethodName} {bytes : ByteArray} {maxL : Nat} {ret : Option FieldType} {hh : List (Nat × Nat × Nat × Nat)}
    (hown : s.vm.findClass own = some m.cls) (hlink : (Cond.methodLink own index y).before args s = true) (hstat : (Cond.static y).before args s = true) (hinit : (Cond.initialized y.cls).before args s = true)
    (hcode : (Cond.codeWith y bytes maxL ret hh).before args s = true) (hy : y.cls ≠ "java/lang/invoke/MethodHandle" ∧ y.cls ≠ "java/lang/invoke/VarHandle")
    {W9 : Nat} {Pre : Pt → Array Value → Prop} {Post : Pt → Array Value → Option Value → Pt → Prop} {PostX : Pt → Array Value → Addr → Pt → Prop} (hK : vx_Back l R p e below s args y 3 W9 Pre Post PostX)
    {g : JFrame} (hg : g.method = m) (hsize : g.locals.size = c.maxLocals) {argsL rest : List Value} (hlen : ∀ sig, parseMethodDescriptor y.desc = some sig → argsL.length = sig.parameters.length)
    (hstack : g.stack = argsL.reverse ++ rest) (hW : 2 * g.monitorRoom + (rest.map fun v => v.category).sum ≤ W9) (hdg : decode c.code g.pc = .ok (.invokestatic index, 3))
    (hpre : ∀ vm₁, s.WarmedH vm₁ → Pre ⟨T.setVm vm₁, locs, cells, slots⟩ argsL.toArray) :
    (∃ (v : Option Value) (vm₁ : Vm) (B : Pt), s.WarmedH vm₁ ∧ Stand p l e R s m args below meth c B.U B.locs B.cells B.slots ∧ Post ⟨T.setVm vm₁, locs, cells, slots⟩ argsL.toArray v B ∧
      ∀ target, Steps p.tables e below (B.U.setTop { g with pc := g.pc + 3, stack := v.toList ++ rest }) target → Steps p.tables e below (T.setTop g) target) ∨
    (∃ (q : Addr) (vm₁ : Vm) (B : Pt), s.WarmedH vm₁ ∧ Stand p l e R s m args below meth c B.U B.locs B.cells B.slots ∧ PostX ⟨T.setVm vm₁, locs, cells, slots⟩ argsL.toArray q B ∧
      Steps p.tables e below (T.setTop g) ((B.U.setTop { g with stack := rest }).pushFrame (.throwing q))) := by
  obtain ⟨mk, methM, cM, hnamed, hmethM, -, -, -, -, -, -, hsigM⟩ := Cond.codeWith_spec hcode
  have hstatic : methM.isStatic = true := Cond.static_spec hnamed hmethM hstat
  obtain ⟨kP, hkP, -⟩ := className_of_methodNamed hnamed
  have hinitP : kP.init = .initialized := Cond.initialized_spec (findClass_of_methodNamed hnamed) hkP hinit
  obtain ⟨vm₁, X₁, hstep₁⟩ := X.invokestatic hexec hown hlink hnamed hmethM hstatic hkP hinitP hy (g := g) hg (argsL := argsL) (rest := rest) (hlen _ hsigM) hstack hdg
  rcases hK m meth c ⟨T.setVm vm₁, locs, cells, slots⟩ { g with stack := rest } (.invokestatic index) mk argsL.toArray X₁ hg hsize hdg hW (X₁.named hnamed) (hpre vm₁ X₁.warmed) with ⟨v, B, X', hpost, hsteps⟩ | ⟨q, B, X', hpost, hsteps⟩
  · exact Or.inl ⟨v, vm₁, B, X₁.warmed, X', hpost, fun target h => hstep₁ _ fun acts => by rw [doInvoke_state]; exact hsteps.trans h⟩
  · exact Or.inr ⟨q, vm₁, B, X₁.warmed, X', hpost, hstep₁ _ fun acts => by rw [doInvoke_state]; exact hsteps⟩
theorem vx_callVW (X : Stand p l e R s m args below meth c T locs cells slots) (hexec : p.tables.exec = Jvm.exec) {own C : String} {index : Nat} {y : MethodName} {bytes : ByteArray} {maxL : Nat} {ret : Option FieldType} {hh : List (Nat × Nat × Nat × Nat)}
    (hown : s.vm.findClass own = some m.cls) (hlink : (Cond.methodLink own index y).before args s = true) (hinst : (Cond.instanceMethod y).before args s = true) (hsel : (Cond.selects C y y).before args s = true)
    (hcode : (Cond.codeWith y bytes maxL ret hh).before args s = true) (hy : y.cls ≠ "java/lang/invoke/MethodHandle" ∧ y.cls ≠ "java/lang/invoke/VarHandle")
    {W9 : Nat} {Pre : Pt → Array Value → Prop} {Post : Pt → Array Value → Option Value → Pt → Prop} (hK : Back l R p e below s args y 3 W9 Pre Post)
    {b : Addr} {cellB : Cell} (hcell : T.heap[b]? = some cellB) (hobj : cellB.vm.isStatics = false) (hcls : s.vm.findClass C = some cellB.cls)
    {g : JFrame} (hg : g.method = m) (hsize : g.locals.size = c.maxLocals) {argsL rest : List Value} (hlen : ∀ sig, parseMethodDescriptor y.desc = some sig → argsL.length = sig.parameters.length)
    (hstack : g.stack = argsL.reverse ++ .ref b :: rest) (hW : 2 * g.monitorRoom + (rest.map fun v => v.category).sum ≤ W9) (hdg : decode c.code g.pc = .ok (.invokevirtual index, 3))
    (hpre : ∀ vm₁, s.WarmedH vm₁ → Pre ⟨T.setVm vm₁, locs, cells, slots⟩ (Value.ref b :: argsL).toArray) :
    ∃ (v : Option Value) (vm₁ : Vm) (B : Pt), s.WarmedH vm₁ ∧ Stand p l e R s m args below meth c B.U B.locs B.cells B.slots ∧ Post ⟨T.setVm vm₁, locs, cells, slots⟩ (Value.ref b :: argsL).toArray v B ∧
      ∀ target, Steps p.tables e below (B.U.setTop { g with pc := g.pc + 3, stack := v.toList ++ rest }) target → Steps p.tables e below (T.setTop g) target := by
  obtain ⟨mk, methM, hnamed, hmethM, hstM, habM⟩ := Cond.instanceMethod_spec hinst
  obtain ⟨m8, methM', cM, hn8, hmethM', -, -, -, -, -, -, hsigM⟩ := Cond.codeWith_spec hcode
  cases Option.some.inj (hn8.symm.trans hnamed)
  cases hmethM.symm.trans hmethM'
  obtain ⟨c2, r2, m2, q1, q2, q3, q4, kP, hkP, hkPi⟩ := Cond.selects_spec hsel
  cases hcls.symm.trans q1
  cases (State.methodFound?_of_named hnamed hy).symm.trans q2
  cases hnamed.symm.trans q3
  have hselP : selectMethod e.platform s.vm cellB.cls mk = .method mk := by rw [Launch.admits_selectMethod X.admits]; exact q4
  obtain ⟨vm₁, X₁, hstep₁⟩ := X.invokevirtual hexec hown hlink hnamed hmethM hstM hkP hkPi hy (a := b) (cell := cellB) hcell
    (fun z h => by rw [h] at hobj; cases hobj) hselP hmethM habM hkP hkPi (g := g) hg (argsL := argsL) (rest := rest) (hlen _ hsigM) hstack hdg
  obtain ⟨v, B, X', hpost, hsteps⟩ := hK m meth c ⟨T.setVm vm₁, locs, cells, slots⟩ { g with stack := rest } (.invokevirtual index) mk (Value.ref b :: argsL).toArray X₁ hg hsize hdg hW (X₁.named hnamed) (hpre vm₁ X₁.warmed)
  exact ⟨v, vm₁, B, X₁.warmed, X', hpost, fun target h => hstep₁ _ fun acts => by rw [doInvoke_state]; exact hsteps.trans h⟩
abbrev vx_CVW (R : Room) (s : State) (args : Array Value) (own C : String) (index : Nat) (y : MethodName) (bytes : ByteArray) (maxL : Nat) (ret : Option FieldType) (hh : List (Nat × Nat × Nat × Nat)) (ws : List Cond) (rm : Room) (mc ms n : Nat) : Prop :=
  (rm.cells = mc ∧ rm.slots = ms ∧ rm.frames + 1 ≤ R.frames ∧ 8 + (maxL + 11) + rm.locals ≤ R.locals ∧ (∀ w ∈ ws, ∀ (a' : Array Value) (U : State), s.WarmedH U.vm → w.before a' U = true) ∧ Cond.codeWith y bytes maxL ret hh ∈ ws) ∧
  (Cond.codeWith y bytes maxL ret hh).before args s = true ∧ (Cond.initialized y.cls).before args s = true ∧ (y.cls ≠ "java/lang/invoke/MethodHandle" ∧ y.cls ≠ "java/lang/invoke/VarHandle") ∧
  (∀ sig, parseMethodDescriptor y.desc = some sig → n = sig.parameters.length) ∧ (Cond.methodLink own index y).before args s = true ∧ (Cond.instanceMethod y).before args s = true ∧ (Cond.selects C y y).before args s = true
theorem vx_cwVW {own C : String} {index maxL mc ms : Nat} {y : MethodName} {bytes : ByteArray} {ret : Option FieldType} {hh : List (Nat × Nat × Nat × Nat)} {Ts ws ws' : List Cond} {rm : Room} (n : Nat) (ht : ∀ w ∈ Ts, w.before args s = true) (hT : GoodIn Ts (wsV own index C y ws)) (hw : ws = Cond.codeWith y bytes maxL ret hh :: ws') (hrc : rm.cells = mc) (hrs : rm.slots = ms)
    (hd : y.cls = C ∧ y.cls ≠ "java/lang/invoke/MethodHandle" ∧ y.cls ≠ "java/lang/invoke/VarHandle" ∧ (parseMethodDescriptor y.desc).map (fun d => d.parameters.length) = some n) (hR : rm.frames + 1 ≤ R.frames ∧ 8 + (maxL + 11) + rm.locals ≤ R.locals) :
    vx_CVW R s args own C index y bytes maxL ret hh ws rm mc ms n := by
  obtain ⟨hC, hd⟩ := hd
  subst hC
  have ok : ∀ w ∈ wsV own index y.cls y ws, w.before args s = true := fun w h => ht w (hT w h).1
  have hG : GoodIn Ts ws := fun w h => hT w (by unfold wsV; exact List.mem_append_right _ h)
  have hc : Cond.codeWith y bytes maxL ret hh ∈ ws := by rw [hw]; exact List.mem_cons_self
  refine ⟨⟨hrc, hrs, hR.1, hR.2, pay_in ht hG, hc⟩, ht _ (hG _ hc).1, ok _ (by simp [wsV]), ⟨hd.1, hd.2.1⟩, fun sig h => ?_, ok _ (by simp [wsV]), ok _ (by simp [wsV]), ok _ (by simp [wsV])⟩
  have h2 := hd.2.2
  rw [h] at h2
  exact (Option.some.inj h2).symm
theorem vx_runVW {y : MethodName} {bytes cc : ByteArray} {maxL nL mc ms n index : Nat} {ret : Option FieldType} {hh : List (Nat × Nat × Nat × Nat)} {ws : List Cond} {rm : Room} {Pc : Array Value → State → Prop} {Qc : Array Value → State → Outcome → State → Prop} {free : Addr → Prop} {Ts : List Cond} {own C : String} {b : Addr} {As rest : List Value} {g : JFrame}
    (S : CallFix p m c cc nL s args Ts own) (hM : Met l y ws rm Pc Qc mc ms free) (cw : vx_CVW R s args own C index y bytes maxL ret hh ws rm mc ms n) (hp : PreV s H C b Pc As)
    (hg : g.method = m) (hn : As.length = n) (hsize : g.locals.size = nL) (hstack : g.stack = As.reverse ++ .ref b :: rest) (hW : 2 * g.monitorRoom + (rest.map fun v => v.category).sum ≤ 8) (hdg : decode cc g.pc = .ok (.invokevirtual index, 3)) (hf : cells + mc ≤ R.cells ∧ slots + ms ≤ R.slots) :
    va_Run p l e R s m args below meth c H locs cells slots mc ms g rest (Qc (Value.ref b :: As).toArray) free := by
  obtain ⟨⟨hrc, hrs, hfr, hlo, hws, hcw⟩, hcode, hini, hy, hlen, hl, hin, hse⟩ := cw
  have hK : Back l R p e below s args y 3 8 (PreOf R mc ms Pc) (PostOf Qc mc ms free) := va_backW (hh := hh) (bytes := bytes) (maxL := maxL) (ret := ret) hM hp.1 hrc hrs hfr hlo hws hcw (fun a' U hW => word_at hW (Or.inl (by first | rfl | simp [Cond.onTables, Cond.keeps, Cond.steady])) hini)
  obtain ⟨hx, hb, hml, ho, -⟩ := S
  obtain ⟨-, ⟨cellB, hcB, hoB, hclB⟩, hPc⟩ := hp
  intro T hT X
  obtain ⟨v, vm₁, ⟨U', l2, c2, s2⟩, hW₁, X', ⟨g', mk, t, L, e1, e2, hq, h1, hL, h2, h3⟩, st⟩ := vx_callVW X hx (C := C) (hh := hh) (bytes := bytes) (maxL := maxL) (ret := ret) ho hl hin hse hcode hy hK (by rw [hT]; exact hcB) hoB hclB hg (hsize.trans hml.symm) (argsL := As) (rest := rest) (fun sig h => hn.trans (hlen sig h)) hstack hW (by rw [hb]; exact hdg)
    (fun vm₁ hW₁ => ⟨hf.1, hf.2, hPc (T.setVm vm₁) hT hW₁⟩)
  dsimp only [Pt.U, Pt.locs, Pt.cells, Pt.slots] at X' e1 e2 h1 h2 h3 st
  subst h1; subst h2; subst h3
  exact ⟨v, (T.setVm vm₁).calling g' mk (Value.ref b :: As).toArray, t, U', L, hT, X', hL, e1, e2, hq, st⟩
section
variable {y : MethodName} {bytes cc : ByteArray} {maxL nL mc ms n index : Nat} {ret : Option FieldType} {ws : List Cond} {rm : Room} {Pc : Array Value → State → Prop} {Qc : Array Value → State → Outcome → State → Prop} {XC : String → State → State → Prop} {free : Addr → Prop} {Ts : List Cond} {own C : String} {b : Addr} {As rest : List Value} {g : JFrame}
theorem vx_runVX {hh : List (Nat × Nat × Nat × Nat)} (S : CallFix p m c cc nL s args Ts own) (hM : vx_Met l y ws rm Pc Qc XC mc ms free) (cw : vx_CVW R s args own C index y bytes maxL ret hh ws rm mc ms n) (hp : PreV s H C b Pc As)
    (hg : g.method = m) (hn : As.length = n) (hsize : g.locals.size = nL) (hstack : g.stack = As.reverse ++ .ref b :: rest) (hW : 2 * g.monitorRoom + (rest.map fun v => v.category).sum ≤ 8) (hdg : decode cc g.pc = .ok (.invokevirtual index, 3)) (hf : cells + mc ≤ R.cells ∧ slots + ms ≤ R.slots) :
    vx_Run p l e R s m args below meth c H locs cells slots mc ms g rest (Qc (Value.ref b :: As).toArray) XC free := by
  obtain ⟨⟨hrc, hrs, hfr, hlo, hws, hcw⟩, hcode, hini, hy, hlen, hl, hin, hse⟩ := cw
  have hK : vx_Back l R p e below s args y 3 8 (PreOf R mc ms Pc) (PostOf Qc mc ms free) (vx_Post XC mc ms free) := vx_backW (hh := hh) (bytes := bytes) (maxL := maxL) (ret := ret) hM hp.1 hrc hrs hfr hlo hws hcw (fun a' U hW => word_at hW (Or.inl (by first | rfl | simp [Cond.onTables, Cond.keeps, Cond.steady])) hini)
  obtain ⟨hx, hb, hml, ho, -⟩ := S
  obtain ⟨-, ⟨cellB, hcB, hoB, hclB⟩, hPc⟩ := hp
  intro T hT X
  rcases vx_callVX X hx (C := C) (hh := hh) (bytes := bytes) (maxL := maxL) (ret := ret) ho hl hin hse hcode hy hK (by rw [hT]; exact hcB) hoB hclB hg (hsize.trans hml.symm) (argsL := As) (rest := rest) (fun sig h => hn.trans (hlen sig h)) hstack hW (by rw [hb]; exact hdg)
    (fun vm₁ hW₁ => ⟨hf.1, hf.2, hPc (T.setVm vm₁) hT hW₁⟩) with ⟨v, vm₁, ⟨U', l2, c2, s2⟩, hW₁, X', ⟨g', mk, t, L, e1, e2, hq, h1, hL, h2, h3⟩, st⟩ | ⟨q, vm₁, ⟨U', l2, c2, s2⟩, hW₁, X', ⟨g', mk, t, L, E, ce, e1, e2, hq, hce, hcv, hcl, h1, hL, h2, h3⟩, st⟩
  · dsimp only [Pt.U, Pt.locs, Pt.cells, Pt.slots] at X' e1 e2 h1 h2 h3 st
    subst h1; subst h2; subst h3
    exact Or.inl ⟨v, (T.setVm vm₁).calling g' mk (Value.ref b :: As).toArray, t, U', L, hT, X', hL, e1, e2, hq, st⟩
  · dsimp only [Pt.U, Pt.locs, Pt.cells, Pt.slots] at X' e1 e2 h1 h2 h3 st hcl
    subst h1; subst h2; subst h3
    exact Or.inr ⟨q, (T.setVm vm₁).calling g' mk (Value.ref b :: As).toArray, t, U', L, E, ce, hT, X', hL, e1, e2, hq, hce, hcv, vx_cls hW₁ hcl, st⟩
theorem vx_runSX {hh : List (Nat × Nat × Nat × Nat)} (S : CallFix p m c cc nL s args Ts own) (hM : vx_Met l y ws rm Pc Qc XC mc ms free) (cw : vx_CSW R s args own index y bytes maxL ret hh ws rm mc ms n) (hp : PreS s H Pc As)
    (hg : g.method = m) (hn : As.length = n) (hsize : g.locals.size = nL) (hstack : g.stack = As.reverse ++ rest) (hW : 2 * g.monitorRoom + (rest.map fun v => v.category).sum ≤ 8) (hdg : decode cc g.pc = .ok (.invokestatic index, 3)) (hf : cells + mc ≤ R.cells ∧ slots + ms ≤ R.slots) :
    vx_Run p l e R s m args below meth c H locs cells slots mc ms g rest (Qc As.toArray) XC free := by
  obtain ⟨⟨hrc, hrs, hfr, hlo, hws, hcw⟩, hcode, hini, hy, hlen, hl, hstt⟩ := cw
  have hK : vx_Back l R p e below s args y 3 8 (PreOf R mc ms Pc) (PostOf Qc mc ms free) (vx_Post XC mc ms free) := vx_backW (hh := hh) (bytes := bytes) (maxL := maxL) (ret := ret) hM hp.1 hrc hrs hfr hlo hws hcw (fun a' U hW => word_at hW (Or.inl (by first | rfl | simp [Cond.onTables, Cond.keeps, Cond.steady])) hini)
  obtain ⟨hx, hb, hml, ho, -⟩ := S
  intro T hT X
  rcases vx_callSX X hx (hh := hh) (bytes := bytes) (maxL := maxL) (ret := ret) ho hl hstt hini hcode hy hK hg (hsize.trans hml.symm) (argsL := As) (rest := rest) (fun sig h => hn.trans (hlen sig h)) hstack hW (by rw [hb]; exact hdg)
    (fun vm₁ hW₁ => ⟨hf.1, hf.2, hp.2 (T.setVm vm₁) hT hW₁⟩) with ⟨v, vm₁, ⟨U', l2, c2, s2⟩, hW₁, X', ⟨g', mk, t, L, e1, e2, hq, h1, hL, h2, h3⟩, st⟩ | ⟨q, vm₁, ⟨U', l2, c2, s2⟩, hW₁, X', ⟨g', mk, t, L, E, ce, e1, e2, hq, hce, hcv, hcl, h1, hL, h2, h3⟩, st⟩
  · dsimp only [Pt.U, Pt.locs, Pt.cells, Pt.slots] at X' e1 e2 h1 h2 h3 st
    subst h1; subst h2; subst h3
    exact Or.inl ⟨v, (T.setVm vm₁).calling g' mk As.toArray, t, U', L, hT, X', hL, e1, e2, hq, st⟩
  · dsimp only [Pt.U, Pt.locs, Pt.cells, Pt.slots] at X' e1 e2 h1 h2 h3 st hcl
    subst h1; subst h2; subst h3
    exact Or.inr ⟨q, (T.setVm vm₁).calling g' mk As.toArray, t, U', L, E, ce, hT, X', hL, e1, e2, hq, hce, hcv, vx_cls hW₁ hcl, st⟩
end
end VXH
theorem vx_ofWH {l : Launch} {y : MethodName} {ws ws' : List Cond} {rm : Room} {Pc : Array Value → State → Prop} {Qc : Array Value → State → Outcome → State → Prop} {XC : String → State → State → Prop} {mc ms : Nat} {free : Addr → Prop} {cc : ByteArray} {maxL : Nat} {ret : Option FieldType} {hh : List (Nat × Nat × Nat × Nat)}
    (hy : plainName y.cls = true) (hw : ws = Cond.codeWith y cc maxL ret hh :: ws')
    (body : ∀ p e s m args below meth c s₁, BodyLoose p l y (headSpec ws rm) cc maxL ret e s m args below meth c s₁ → c.maxLocals = maxL → Pc args s →
      W p l e (headSpec ws rm).room s m args below meth c s.heap [] 0 0 (vx_MQ below Qc XC args s mc ms free) (entryFrame m args maxL)) : vx_Met l y ws rm Pc Qc XC mc ms free := by
  refine MetFree.of_bodyS (code := cc) (maxLocals := maxL) (ret := ret) hy ?_ ?_
  · intro args s m h hn
    obtain ⟨m9, meth, c, hn9, h1, h2, h3, h4, -, h5, h6, -⟩ := Cond.codeWith_spec (atoms_spec (ws := ws) h _ (by rw [hw]; exact List.mem_cons_self))
    cases hn.symm.trans hn9
    exact ⟨meth, c, h1, h2, h3, h4, h5, h6⟩
  · intro p e s m args below meth c s₁ B hml hP _
    have hh0 : s₁.heap = s.heap := by rw [B.state]; rfl
    obtain ⟨t, a1, o, b1, b2, b3⟩ := body p e s m args below meth c s₁ B hml hP s₁ hh0 (Stand.of_body B)
    exact ⟨t, o, a1, b1, b2, b3⟩
/-! ===== END ===== -/
end
section
/-! ===== BEGIN printed: names, fields, word lists, decode rows ===== -/
def RX0 : String := "SleepPlanner$Battery"
def TX0 : u_T := fun k => match k with
  | 0 => ("SleepPlanner$Battery", "harvest", "[I", true)
  | 1 => ("SleepPlanner$Battery", "available", "I", false)
  | 2 => ("SleepPlanner$Battery", "bound", "I", false)
  | _ => ("SleepPlanner$Battery", "shortTicks", "I", false)
def tyX0 : Nat → FieldType := fun k => match k with
  | 0 => .array .int
  | 1 => .int
  | 2 => .int
  | _ => .int
abbrev wsX00 : List Cond := u_ws RX0 TX0 4
abbrev cX0_init : ByteArray := prog_2_method_1_code
def yX0_init : MethodName := ⟨RX0, "<init>", "()V"⟩
abbrev cX0_takeTick : ByteArray := prog_2_method_2_code
def yX0_takeTick : MethodName := ⟨RX0, "takeTick", "(IJ)V"⟩
abbrev cX0_balance : ByteArray := prog_2_method_3_code
def yX0_balance : MethodName := ⟨RX0, "balance", "()V"⟩
def RX1 : String := "SleepPlanner$Clocks"
def TX1 : u_T := fun k => match k with
  | 0 => ("SleepPlanner$Clocks", "parent", "[I", true)
  | 1 => ("SleepPlanner$Clocks", "frequency", "[I", true)
  | 2 => ("SleepPlanner$Clocks", "deepest", "[I", true)
  | 3 => ("SleepPlanner$Clocks", "uses", "[I", true)
  | 4 => ("SleepPlanner$Clocks", "running", "[Z", true)
  | _ => ("SleepPlanner$Clocks", "count", "I", false)
def tyX1 : Nat → FieldType := fun k => match k with
  | 0 => .array .int
  | 1 => .array .int
  | 2 => .array .int
  | 3 => .array .int
  | 4 => .array .boolean
  | _ => .int
abbrev wsX10 : List Cond := u_ws RX1 TX1 6
abbrev cX1_init : ByteArray := prog_3_method_1_code
def yX1_init : MethodName := ⟨RX1, "<init>", "()V"⟩
abbrev cX1_has : ByteArray := prog_3_method_2_code
def yX1_has : MethodName := ⟨RX1, "has", "(I)Z"⟩
abbrev cX1_isFull : ByteArray := prog_3_method_3_code
def yX1_isFull : MethodName := ⟨RX1, "isFull", "()Z"⟩
abbrev cX1_add : ByteArray := prog_3_method_4_code
def yX1_add : MethodName := ⟨RX1, "add", "(III)I"⟩
abbrev cX1_usesOf : ByteArray := prog_3_method_5_code
def yX1_usesOf : MethodName := ⟨RX1, "usesOf", "(I)I"⟩
abbrev cX1_changeUses : ByteArray := prog_3_method_6_code
def yX1_changeUses : MethodName := ⟨RX1, "changeUses", "(II)I"⟩
abbrev cX1_frequencyOf : ByteArray := prog_3_method_7_code
def yX1_frequencyOf : MethodName := ⟨RX1, "frequencyOf", "(I)I"⟩
abbrev cX1_isRunning : ByteArray := prog_3_method_8_code
def yX1_isRunning : MethodName := ⟨RX1, "isRunning", "(I)Z"⟩
abbrev cX1_leastDeepest : ByteArray := prog_3_method_9_code
def yX1_leastDeepest : MethodName := ⟨RX1, "leastDeepest", "()I"⟩
abbrev cX1_markRunning : ByteArray := prog_3_method_10_code
def yX1_markRunning : MethodName := ⟨RX1, "markRunning", "()V"⟩
def RX2 : String := "SleepPlanner$IdleTimes"
def TX2 : u_T := fun k => match k with
  | 0 => ("SleepPlanner$IdleTimes", "lengths", "[I", true)
  | _ => ("SleepPlanner$IdleTimes", "count", "I", false)
def tyX2 : Nat → FieldType := fun k => match k with
  | 0 => .array .int
  | _ => .int
abbrev wsX20 : List Cond := u_ws RX2 TX2 2
abbrev cX2_init : ByteArray := prog_4_method_1_code
def yX2_init : MethodName := ⟨RX2, "<init>", "()V"⟩
abbrev cX2_remember : ByteArray := prog_4_method_2_code
def yX2_remember : MethodName := ⟨RX2, "remember", "(I)V"⟩
abbrev cX2_mean : ByteArray := prog_4_method_3_code
def yX2_mean : MethodName := ⟨RX2, "mean", "()I"⟩
def RX3 : String := "SleepPlanner$Jobs"
def TX3 : u_T := fun k => match k with
  | 0 => ("SleepPlanner$Jobs", "due", "[I", true)
  | 1 => ("SleepPlanner$Jobs", "latest", "[I", true)
  | 2 => ("SleepPlanner$Jobs", "work", "[I", true)
  | _ => ("SleepPlanner$Jobs", "count", "I", false)
def tyX3 : Nat → FieldType := fun k => match k with
  | 0 => .array .int
  | 1 => .array .int
  | 2 => .array .int
  | _ => .int
abbrev wsX30 : List Cond := u_ws RX3 TX3 4
abbrev cX3_init : ByteArray := prog_5_method_1_code
def yX3_init : MethodName := ⟨RX3, "<init>", "()V"⟩
abbrev cX3_isFull : ByteArray := prog_5_method_2_code
def yX3_isFull : MethodName := ⟨RX3, "isFull", "()Z"⟩
abbrev cX3_add : ByteArray := prog_5_method_3_code
def yX3_add : MethodName := ⟨RX3, "add", "(III)I"⟩
abbrev cX3_isAnyDue : ByteArray := prog_5_method_4_code
def yX3_isAnyDue : MethodName := ⟨RX3, "isAnyDue", "(I)Z"⟩
abbrev cX3_takeDue : ByteArray := prog_5_method_5_code
def yX3_takeDue : MethodName := ⟨RX3, "takeDue", "(I)I"⟩
abbrev cX3_leastLatest : ByteArray := prog_5_method_6_code
def yX3_leastLatest : MethodName := ⟨RX3, "leastLatest", "(II)I"⟩
abbrev cX3_greatestDue : ByteArray := prog_5_method_7_code
def yX3_greatestDue : MethodName := ⟨RX3, "greatestDue", "(I)I"⟩
def RX4 : String := "SleepPlanner$Ledger"
def TX4 : u_T := fun k => match k with
  | 0 => ("SleepPlanner$Ledger", "ticksIn", "[I", true)
  | 1 => ("SleepPlanner$Ledger", "spent", "J", false)
  | 2 => ("SleepPlanner$Ledger", "unpaid", "J", false)
  | 3 => ("SleepPlanner$Ledger", "sleeps", "I", false)
  | 4 => ("SleepPlanner$Ledger", "lateness", "I", false)
  | _ => ("SleepPlanner$Ledger", "served", "I", false)
def tyX4 : Nat → FieldType := fun k => match k with
  | 0 => .array .int
  | 1 => .long
  | 2 => .long
  | 3 => .int
  | 4 => .int
  | _ => .int
abbrev wsX40 : List Cond := u_ws RX4 TX4 6
abbrev cX4_init : ByteArray := prog_6_method_1_code
def yX4_init : MethodName := ⟨RX4, "<init>", "()V"⟩
abbrev cX4_spend : ByteArray := prog_6_method_2_code
def yX4_spend : MethodName := ⟨RX4, "spend", "(J)V"⟩
abbrev cX4_countTick : ByteArray := prog_6_method_3_code
def yX4_countTick : MethodName := ⟨RX4, "countTick", "(I)V"⟩
abbrev cX4_takeUnpaid : ByteArray := prog_6_method_4_code
def yX4_takeUnpaid : MethodName := ⟨RX4, "takeUnpaid", "()J"⟩
def RX5 : String := "SleepPlanner$Plans"
def TX5 : u_T := fun k => match k with
  | 0 => ("SleepPlanner$Plans", "stepCost", "[J", true)
  | _ => ("SleepPlanner$Plans", "leastTo", "[J", true)
def tyX5 : Nat → FieldType := fun k => match k with
  | 0 => .array .long
  | _ => .array .long
abbrev wsX50 : List Cond := u_ws RX5 TX5 2
abbrev cX5_init : ByteArray := prog_7_method_1_code
def yX5_init : MethodName := ⟨RX5, "<init>", "()V"⟩
abbrev cX5_countPlanned : ByteArray := prog_7_method_2_code
def yX5_countPlanned : MethodName := ⟨RX5, "countPlanned", "(LSleepPlanner$Jobs;I)I"⟩
abbrev cX5_sumPlanned : ByteArray := prog_7_method_3_code
def yX5_sumPlanned : MethodName := ⟨RX5, "sumPlanned", "(LSleepPlanner$Jobs;IILSleepPlanner$States;I)J"⟩
abbrev cX5_countFewest : ByteArray := prog_7_method_4_code
def yX5_countFewest : MethodName := ⟨RX5, "countFewest", "(LSleepPlanner$Jobs;II)I"⟩
abbrev cX5_sumLeast : ByteArray := prog_7_method_5_code
def yX5_sumLeast : MethodName := ⟨RX5, "sumLeast", "(LSleepPlanner$Jobs;IILSleepPlanner$States;I)J"⟩
abbrev cX5_leastSum : ByteArray := prog_7_method_6_code
def yX5_leastSum : MethodName := ⟨RX5, "leastSum", "(LSleepPlanner$Jobs;III)J"⟩
abbrev cX5_earliestBefore : ByteArray := prog_7_method_7_code
def yX5_earliestBefore : MethodName := ⟨RX5, "earliestBefore", "(LSleepPlanner$Jobs;III)I"⟩
abbrev cX5_leastSumTo : ByteArray := prog_7_method_8_code
def yX5_leastSumTo : MethodName := ⟨RX5, "leastSumTo", "(II)J"⟩
def RX6 : String := "SleepPlanner$States"
def TX6 : u_T := fun k => match k with
  | 0 => ("SleepPlanner$States", "power", "[I", true)
  | 1 => ("SleepPlanner$States", "cost", "[I", true)
  | _ => ("SleepPlanner$States", "latency", "[I", true)
def tyX6 : Nat → FieldType := fun k => match k with
  | 0 => .array .int
  | 1 => .array .int
  | _ => .array .int
abbrev wsX60 : List Cond := u_ws RX6 TX6 3
abbrev cX6_init : ByteArray := prog_8_method_1_code
def yX6_init : MethodName := ⟨RX6, "<init>", "()V"⟩
abbrev cX6_change : ByteArray := prog_8_method_2_code
def yX6_change : MethodName := ⟨RX6, "change", "(IIII)V"⟩
abbrev cX6_powerOf : ByteArray := prog_8_method_3_code
def yX6_powerOf : MethodName := ⟨RX6, "powerOf", "(I)I"⟩
abbrev cX6_costOf : ByteArray := prog_8_method_4_code
def yX6_costOf : MethodName := ⟨RX6, "costOf", "(I)I"⟩
abbrev cX6_latencyOf : ByteArray := prog_8_method_5_code
def yX6_latencyOf : MethodName := ⟨RX6, "latencyOf", "(I)I"⟩
abbrev cX6_wakingCost : ByteArray := prog_8_method_6_code
def yX6_wakingCost : MethodName := ⟨RX6, "wakingCost", "(I)I"⟩
abbrev cX6_idleCost : ByteArray := prog_8_method_7_code
def yX6_idleCost : MethodName := ⟨RX6, "idleCost", "(II)I"⟩
abbrev cX6_leastWorthwhile : ByteArray := prog_8_method_8_code
def yX6_leastWorthwhile : MethodName := ⟨RX6, "leastWorthwhile", "(I)I"⟩
abbrev cX6_deepestThatWakes : ByteArray := prog_8_method_9_code
def yX6_deepestThatWakes : MethodName := ⟨RX6, "deepestThatWakes", "(II)I"⟩
abbrev cX6_deepestWorthwhile : ByteArray := prog_8_method_10_code
def yX6_deepestWorthwhile : MethodName := ⟨RX6, "deepestWorthwhile", "(II)I"⟩
abbrev cX6_plannedIdleCost : ByteArray := prog_8_method_11_code
def yX6_plannedIdleCost : MethodName := ⟨RX6, "plannedIdleCost", "(II)I"⟩
abbrev cX6_leastIdleCost : ByteArray := prog_8_method_12_code
def yX6_leastIdleCost : MethodName := ⟨RX6, "leastIdleCost", "(II)I"⟩
def RX7 : String := "SleepPlanner"
def TX7 : u_T := fun k => match k with
  | 0 => ("SleepPlanner", "states", "LSleepPlanner$States;", true)
  | 1 => ("SleepPlanner", "votes", "[I", true)
  | 2 => ("SleepPlanner", "clocks", "LSleepPlanner$Clocks;", true)
  | 3 => ("SleepPlanner", "timers", "LSleepPlanner$Jobs;", true)
  | 4 => ("SleepPlanner", "events", "LSleepPlanner$Jobs;", true)
  | 5 => ("SleepPlanner", "idleTimes", "LSleepPlanner$IdleTimes;", true)
  | 6 => ("SleepPlanner", "ledger", "LSleepPlanner$Ledger;", true)
  | 7 => ("SleepPlanner", "battery", "LSleepPlanner$Battery;", true)
  | 8 => ("SleepPlanner", "plans", "LSleepPlanner$Plans;", true)
  | 9 => ("SleepPlanner", "rule", "I", false)
  | 10 => ("SleepPlanner", "now", "I", false)
  | 11 => ("SleepPlanner", "state", "I", false)
  | _ => ("SleepPlanner", "asleepSince", "I", false)
def tyX7 : Nat → FieldType := fun k => match k with
  | 0 => .object "SleepPlanner$States"
  | 1 => .array .int
  | 2 => .object "SleepPlanner$Clocks"
  | 3 => .object "SleepPlanner$Jobs"
  | 4 => .object "SleepPlanner$Jobs"
  | 5 => .object "SleepPlanner$IdleTimes"
  | 6 => .object "SleepPlanner$Ledger"
  | 7 => .object "SleepPlanner$Battery"
  | 8 => .object "SleepPlanner$Plans"
  | 9 => .int
  | 10 => .int
  | 11 => .int
  | _ => .int
abbrev wsX70 : List Cond := u_ws RX7 TX7 13
abbrev cX7_init : ByteArray := prog_1_method_1_code
def yX7_init : MethodName := ⟨RX7, "<init>", "()V"⟩
abbrev cX7_setState : ByteArray := prog_1_method_2_code
def yX7_setState : MethodName := ⟨RX7, "setState", "(IIII)V"⟩
abbrev cX7_setAwake : ByteArray := prog_1_method_3_code
def yX7_setAwake : MethodName := ⟨RX7, "setAwake", "(I)I"⟩
abbrev cX7_vote : ByteArray := prog_1_method_4_code
def yX7_vote : MethodName := ⟨RX7, "vote", "(II)I"⟩
abbrev cX7_addClock : ByteArray := prog_1_method_5_code
def yX7_addClock : MethodName := ⟨RX7, "addClock", "(III)I"⟩
abbrev cX7_use : ByteArray := prog_1_method_6_code
def yX7_use : MethodName := ⟨RX7, "use", "(I)I"⟩
abbrev cX7_release : ByteArray := prog_1_method_7_code
def yX7_release : MethodName := ⟨RX7, "release", "(I)I"⟩
abbrev cX7_runs : ByteArray := prog_1_method_8_code
def yX7_runs : MethodName := ⟨RX7, "runs", "(I)Z"⟩
abbrev cX7_frequency : ByteArray := prog_1_method_9_code
def yX7_frequency : MethodName := ⟨RX7, "frequency", "(I)I"⟩
abbrev cX7_depth : ByteArray := prog_1_method_10_code
def yX7_depth : MethodName := ⟨RX7, "depth", "()I"⟩
abbrev cX7_breakEven : ByteArray := prog_1_method_11_code
def yX7_breakEven : MethodName := ⟨RX7, "breakEven", "(I)I"⟩
abbrev cX7_schedule : ByteArray := prog_1_method_12_code
def yX7_schedule : MethodName := ⟨RX7, "schedule", "(III)I"⟩
abbrev cX7_addEvent : ByteArray := prog_1_method_13_code
def yX7_addEvent : MethodName := ⟨RX7, "addEvent", "(II)I"⟩
abbrev cX7_setRule : ByteArray := prog_1_method_14_code
def yX7_setRule : MethodName := ⟨RX7, "setRule", "(I)I"⟩
abbrev cX7_timers : ByteArray := prog_1_method_15_code
def yX7_timers : MethodName := ⟨RX7, "timers", "()I"⟩
abbrev cX7_nextWakeup : ByteArray := prog_1_method_16_code
def yX7_nextWakeup : MethodName := ⟨RX7, "nextWakeup", "()I"⟩
abbrev cX7_play : ByteArray := prog_1_method_17_code
def yX7_play : MethodName := ⟨RX7, "play", "(I)I"⟩
abbrev cX7_now : ByteArray := prog_1_method_18_code
def yX7_now : MethodName := ⟨RX7, "now", "()I"⟩
abbrev cX7_state : ByteArray := prog_1_method_19_code
def yX7_state : MethodName := ⟨RX7, "state", "()I"⟩
abbrev cX7_spent : ByteArray := prog_1_method_20_code
def yX7_spent : MethodName := ⟨RX7, "spent", "()J"⟩
abbrev cX7_ticksIn : ByteArray := prog_1_method_21_code
def yX7_ticksIn : MethodName := ⟨RX7, "ticksIn", "(I)I"⟩
abbrev cX7_sleeps : ByteArray := prog_1_method_22_code
def yX7_sleeps : MethodName := ⟨RX7, "sleeps", "()I"⟩
abbrev cX7_lateness : ByteArray := prog_1_method_23_code
def yX7_lateness : MethodName := ⟨RX7, "lateness", "()I"⟩
abbrev cX7_served : ByteArray := prog_1_method_24_code
def yX7_served : MethodName := ⟨RX7, "served", "()I"⟩
abbrev cX7_setHarvest : ByteArray := prog_1_method_25_code
def yX7_setHarvest : MethodName := ⟨RX7, "setHarvest", "(II)I"⟩
abbrev cX7_available : ByteArray := prog_1_method_26_code
def yX7_available : MethodName := ⟨RX7, "available", "()I"⟩
abbrev cX7_bound : ByteArray := prog_1_method_27_code
def yX7_bound : MethodName := ⟨RX7, "bound", "()I"⟩
abbrev cX7_shortTicks : ByteArray := prog_1_method_28_code
def yX7_shortTicks : MethodName := ⟨RX7, "shortTicks", "()I"⟩
abbrev cX7_plannedWakeups : ByteArray := prog_1_method_29_code
def yX7_plannedWakeups : MethodName := ⟨RX7, "plannedWakeups", "(I)I"⟩
abbrev cX7_fewestWakeups : ByteArray := prog_1_method_30_code
def yX7_fewestWakeups : MethodName := ⟨RX7, "fewestWakeups", "(I)I"⟩
abbrev cX7_plannedCost : ByteArray := prog_1_method_31_code
def yX7_plannedCost : MethodName := ⟨RX7, "plannedCost", "(I)J"⟩
abbrev cX7_leastCost : ByteArray := prog_1_method_32_code
def yX7_leastCost : MethodName := ⟨RX7, "leastCost", "(I)J"⟩
abbrev cX7_playTick : ByteArray := prog_1_method_33_code
def yX7_playTick : MethodName := ⟨RX7, "playTick", "()V"⟩
abbrev cX7_wakeIfCalledFor : ByteArray := prog_1_method_34_code
def yX7_wakeIfCalledFor : MethodName := ⟨RX7, "wakeIfCalledFor", "()V"⟩
abbrev cX7_wakeForCall : ByteArray := prog_1_method_35_code
def yX7_wakeForCall : MethodName := ⟨RX7, "wakeForCall", "()V"⟩
abbrev cX7_endIdleTime : ByteArray := prog_1_method_36_code
def yX7_endIdleTime : MethodName := ⟨RX7, "endIdleTime", "()V"⟩
abbrev cX7_serveWhatIsDue : ByteArray := prog_1_method_37_code
def yX7_serveWhatIsDue : MethodName := ⟨RX7, "serveWhatIsDue", "()V"⟩
abbrev cX7_chooseState : ByteArray := prog_1_method_38_code
def yX7_chooseState : MethodName := ⟨RX7, "chooseState", "()I"⟩
abbrev cX7_fallAsleep : ByteArray := prog_1_method_39_code
def yX7_fallAsleep : MethodName := ⟨RX7, "fallAsleep", "(I)V"⟩
abbrev cX7_powerOfTick : ByteArray := prog_1_method_40_code
def yX7_powerOfTick : MethodName := ⟨RX7, "powerOfTick", "()I"⟩
abbrev cX7_ticksToWakeup : ByteArray := prog_1_method_41_code
def yX7_ticksToWakeup : MethodName := ⟨RX7, "ticksToWakeup", "()I"⟩
abbrev cX7_isWithin : ByteArray := prog_1_method_42_code
def yX7_isWithin : MethodName := ⟨RX7, "isWithin", "(III)Z"⟩
abbrev cX7_read : ByteArray := prog_1_method_43_code
def yX7_read : MethodName := ⟨RX7, "read", "([II)I"⟩
abbrev cX7_exchange : ByteArray := prog_1_method_44_code
def yX7_exchange : MethodName := ⟨RX7, "exchange", "([III)I"⟩
def RX8 : String := "SleepPlannerModel"
def TX8 : u_T := fun k => match k with
  | 0 => ("SleepPlannerModel", "power", "[I", true)
  | 1 => ("SleepPlannerModel", "cost", "[I", true)
  | 2 => ("SleepPlannerModel", "latency", "[I", true)
  | 3 => ("SleepPlannerModel", "votes", "[I", true)
  | 4 => ("SleepPlannerModel", "clocks", "I", false)
  | 5 => ("SleepPlannerModel", "parent", "[I", true)
  | 6 => ("SleepPlannerModel", "divider", "[I", true)
  | 7 => ("SleepPlannerModel", "deepest", "[I", true)
  | 8 => ("SleepPlannerModel", "uses", "[I", true)
  | 9 => ("SleepPlannerModel", "isRunning", "[Z", true)
  | 10 => ("SleepPlannerModel", "timers", "I", false)
  | 11 => ("SleepPlannerModel", "due", "[I", true)
  | 12 => ("SleepPlannerModel", "latest", "[I", true)
  | 13 => ("SleepPlannerModel", "work", "[I", true)
  | 14 => ("SleepPlannerModel", "events", "I", false)
  | 15 => ("SleepPlannerModel", "tick", "[I", true)
  | 16 => ("SleepPlannerModel", "load", "[I", true)
  | 17 => ("SleepPlannerModel", "rule", "I", false)
  | 18 => ("SleepPlannerModel", "now", "I", false)
  | 19 => ("SleepPlannerModel", "state", "I", false)
  | 20 => ("SleepPlannerModel", "asleepFrom", "I", false)
  | 21 => ("SleepPlannerModel", "idles", "I", false)
  | 22 => ("SleepPlannerModel", "idle", "[I", true)
  | 23 => ("SleepPlannerModel", "spent", "J", false)
  | 24 => ("SleepPlannerModel", "pending", "J", false)
  | 25 => ("SleepPlannerModel", "ticksIn", "[I", true)
  | 26 => ("SleepPlannerModel", "sleeps", "I", false)
  | 27 => ("SleepPlannerModel", "lateness", "I", false)
  | 28 => ("SleepPlannerModel", "served", "I", false)
  | 29 => ("SleepPlannerModel", "harvest", "[I", true)
  | 30 => ("SleepPlannerModel", "available", "I", false)
  | 31 => ("SleepPlannerModel", "bound", "I", false)
  | 32 => ("SleepPlannerModel", "shortTicks", "I", false)
  | 33 => ("SleepPlannerModel", "least", "[J", true)
  | 34 => ("SleepPlannerModel", "byLength", "[J", true)
  | _ => ("SleepPlannerModel", "thrown", "I", false)
def tyX8 : Nat → FieldType := fun k => match k with
  | 0 => .array .int
  | 1 => .array .int
  | 2 => .array .int
  | 3 => .array .int
  | 4 => .int
  | 5 => .array .int
  | 6 => .array .int
  | 7 => .array .int
  | 8 => .array .int
  | 9 => .array .boolean
  | 10 => .int
  | 11 => .array .int
  | 12 => .array .int
  | 13 => .array .int
  | 14 => .int
  | 15 => .array .int
  | 16 => .array .int
  | 17 => .int
  | 18 => .int
  | 19 => .int
  | 20 => .int
  | 21 => .int
  | 22 => .array .int
  | 23 => .long
  | 24 => .long
  | 25 => .array .int
  | 26 => .int
  | 27 => .int
  | 28 => .int
  | 29 => .array .int
  | 30 => .int
  | 31 => .int
  | 32 => .int
  | 33 => .array .long
  | 34 => .array .long
  | _ => .int
abbrev wsX80 : List Cond := u_ws RX8 TX8 36
abbrev cX8_init : ByteArray := prog_10_method_1_code
def yX8_init : MethodName := ⟨RX8, "<init>", "()V"⟩
abbrev cX8_thrown : ByteArray := prog_10_method_2_code
def yX8_thrown : MethodName := ⟨RX8, "thrown", "()I"⟩
abbrev cX8_fails : ByteArray := prog_10_method_3_code
def yX8_fails : MethodName := ⟨RX8, "fails", "(I)I"⟩
abbrev cX8_asks : ByteArray := prog_10_method_4_code
def yX8_asks : MethodName := ⟨RX8, "asks", "(Z)Z"⟩
abbrev cX8_in : ByteArray := prog_10_method_5_code
def yX8_in : MethodName := ⟨RX8, "in", "(III)Z"⟩
abbrev cX8_spends : ByteArray := prog_10_method_6_code
def yX8_spends : MethodName := ⟨RX8, "spends", "(J)V"⟩
abbrev cX8_wakes : ByteArray := prog_10_method_7_code
def yX8_wakes : MethodName := ⟨RX8, "wakes", "()V"⟩
abbrev cX8_stirs : ByteArray := prog_10_method_8_code
def yX8_stirs : MethodName := ⟨RX8, "stirs", "()V"⟩
abbrev cX8_setState : ByteArray := prog_10_method_9_code
def yX8_setState : MethodName := ⟨RX8, "setState", "(IIII)V"⟩
abbrev cX8_setAwake : ByteArray := prog_10_method_10_code
def yX8_setAwake : MethodName := ⟨RX8, "setAwake", "(I)I"⟩
abbrev cX8_vote : ByteArray := prog_10_method_11_code
def yX8_vote : MethodName := ⟨RX8, "vote", "(II)I"⟩
abbrev cX8_isClock : ByteArray := prog_10_method_12_code
def yX8_isClock : MethodName := ⟨RX8, "isClock", "(I)Z"⟩
abbrev cX8_addClock : ByteArray := prog_10_method_13_code
def yX8_addClock : MethodName := ⟨RX8, "addClock", "(III)I"⟩
abbrev cX8_use : ByteArray := prog_10_method_14_code
def yX8_use : MethodName := ⟨RX8, "use", "(I)I"⟩
abbrev cX8_release : ByteArray := prog_10_method_15_code
def yX8_release : MethodName := ⟨RX8, "release", "(I)I"⟩
abbrev cX8_findsRunning : ByteArray := prog_10_method_16_code
def yX8_findsRunning : MethodName := ⟨RX8, "findsRunning", "()V"⟩
abbrev cX8_runs : ByteArray := prog_10_method_17_code
def yX8_runs : MethodName := ⟨RX8, "runs", "(I)Z"⟩
abbrev cX8_frequency : ByteArray := prog_10_method_18_code
def yX8_frequency : MethodName := ⟨RX8, "frequency", "(I)I"⟩
abbrev cX8_deepestNow : ByteArray := prog_10_method_19_code
def yX8_deepestNow : MethodName := ⟨RX8, "deepestNow", "()I"⟩
abbrev cX8_depth : ByteArray := prog_10_method_20_code
def yX8_depth : MethodName := ⟨RX8, "depth", "()I"⟩
abbrev cX8_idleCost : ByteArray := prog_10_method_21_code
def yX8_idleCost : MethodName := ⟨RX8, "idleCost", "(II)J"⟩
abbrev cX8_evenAt : ByteArray := prog_10_method_22_code
def yX8_evenAt : MethodName := ⟨RX8, "evenAt", "(I)I"⟩
abbrev cX8_breakEven : ByteArray := prog_10_method_23_code
def yX8_breakEven : MethodName := ⟨RX8, "breakEven", "(I)I"⟩
abbrev cX8_schedule : ByteArray := prog_10_method_24_code
def yX8_schedule : MethodName := ⟨RX8, "schedule", "(III)I"⟩
abbrev cX8_addEvent : ByteArray := prog_10_method_25_code
def yX8_addEvent : MethodName := ⟨RX8, "addEvent", "(II)I"⟩
abbrev cX8_setRule : ByteArray := prog_10_method_26_code
def yX8_setRule : MethodName := ⟨RX8, "setRule", "(I)I"⟩
abbrev cX8_timers : ByteArray := prog_10_method_27_code
def yX8_timers : MethodName := ⟨RX8, "timers", "()I"⟩
abbrev cX8_next : ByteArray := prog_10_method_28_code
def yX8_next : MethodName := ⟨RX8, "next", "()I"⟩
abbrev cX8_nextWakeup : ByteArray := prog_10_method_29_code
def yX8_nextWakeup : MethodName := ⟨RX8, "nextWakeup", "()I"⟩
abbrev cX8_isEvent : ByteArray := prog_10_method_30_code
def yX8_isEvent : MethodName := ⟨RX8, "isEvent", "()Z"⟩
abbrev cX8_mayWake : ByteArray := prog_10_method_31_code
def yX8_mayWake : MethodName := ⟨RX8, "mayWake", "()V"⟩
abbrev cX8_serves : ByteArray := prog_10_method_32_code
def yX8_serves : MethodName := ⟨RX8, "serves", "(I)V"⟩
abbrev cX8_servesAll : ByteArray := prog_10_method_33_code
def yX8_servesAll : MethodName := ⟨RX8, "servesAll", "()V"⟩
abbrev cX8_mean : ByteArray := prog_10_method_34_code
def yX8_mean : MethodName := ⟨RX8, "mean", "()I"⟩
abbrev cX8_chooses : ByteArray := prog_10_method_35_code
def yX8_chooses : MethodName := ⟨RX8, "chooses", "(II)I"⟩
abbrev cX8_governs : ByteArray := prog_10_method_36_code
def yX8_governs : MethodName := ⟨RX8, "governs", "()V"⟩
abbrev cX8_down : ByteArray := prog_10_method_37_code
def yX8_down : MethodName := ⟨RX8, "down", "(II)I"⟩
abbrev cX8_battery : ByteArray := prog_10_method_38_code
def yX8_battery : MethodName := ⟨RX8, "battery", "()V"⟩
abbrev cX8_playsOne : ByteArray := prog_10_method_39_code
def yX8_playsOne : MethodName := ⟨RX8, "playsOne", "()V"⟩
abbrev cX8_play : ByteArray := prog_10_method_40_code
def yX8_play : MethodName := ⟨RX8, "play", "(I)I"⟩
abbrev cX8_now : ByteArray := prog_10_method_41_code
def yX8_now : MethodName := ⟨RX8, "now", "()I"⟩
abbrev cX8_state : ByteArray := prog_10_method_42_code
def yX8_state : MethodName := ⟨RX8, "state", "()I"⟩
abbrev cX8_spent : ByteArray := prog_10_method_43_code
def yX8_spent : MethodName := ⟨RX8, "spent", "()J"⟩
abbrev cX8_ticksIn : ByteArray := prog_10_method_44_code
def yX8_ticksIn : MethodName := ⟨RX8, "ticksIn", "(I)I"⟩
abbrev cX8_sleeps : ByteArray := prog_10_method_45_code
def yX8_sleeps : MethodName := ⟨RX8, "sleeps", "()I"⟩
abbrev cX8_lateness : ByteArray := prog_10_method_46_code
def yX8_lateness : MethodName := ⟨RX8, "lateness", "()I"⟩
abbrev cX8_served : ByteArray := prog_10_method_47_code
def yX8_served : MethodName := ⟨RX8, "served", "()I"⟩
abbrev cX8_setHarvest : ByteArray := prog_10_method_48_code
def yX8_setHarvest : MethodName := ⟨RX8, "setHarvest", "(II)I"⟩
abbrev cX8_available : ByteArray := prog_10_method_49_code
def yX8_available : MethodName := ⟨RX8, "available", "()I"⟩
abbrev cX8_bound : ByteArray := prog_10_method_50_code
def yX8_bound : MethodName := ⟨RX8, "bound", "()I"⟩
abbrev cX8_shortTicks : ByteArray := prog_10_method_51_code
def yX8_shortTicks : MethodName := ⟨RX8, "shortTicks", "()I"⟩
abbrev cX8_isReach : ByteArray := prog_10_method_52_code
def yX8_isReach : MethodName := ⟨RX8, "isReach", "(I)Z"⟩
abbrev cX8_nextPlanned : ByteArray := prog_10_method_53_code
def yX8_nextPlanned : MethodName := ⟨RX8, "nextPlanned", "(II)I"⟩
abbrev cX8_wakeups : ByteArray := prog_10_method_54_code
def yX8_wakeups : MethodName := ⟨RX8, "wakeups", "(I)I"⟩
abbrev cX8_plannedWakeups : ByteArray := prog_10_method_55_code
def yX8_plannedWakeups : MethodName := ⟨RX8, "plannedWakeups", "(I)I"⟩
abbrev cX8_fewestWakeups : ByteArray := prog_10_method_56_code
def yX8_fewestWakeups : MethodName := ⟨RX8, "fewestWakeups", "(I)I"⟩
abbrev cX8_plannedCost : ByteArray := prog_10_method_57_code
def yX8_plannedCost : MethodName := ⟨RX8, "plannedCost", "(I)J"⟩
abbrev cX8_leastCost : ByteArray := prog_10_method_58_code
def yX8_leastCost : MethodName := ⟨RX8, "leastCost", "(I)J"⟩
def RJ9 : String := "java/lang/Math"
def TJ9 : u_T := fun k => match k with
  | _ => ("", "", "", false)
def tyJ9 : Nat → FieldType := fun k => match k with
  | _ => .int
abbrev wsJ90 : List Cond := u_ws RJ9 TJ9 0
abbrev cJ9_floorDiv_7cf53 : ByteArray := prog_15_method_47_code
def yJ9_floorDiv_7cf53 : MethodName := ⟨RJ9, "floorDiv", "(II)I"⟩
abbrev cJ9_floorMod_7cf53 : ByteArray := prog_15_method_50_code
def yJ9_floorMod_7cf53 : MethodName := ⟨RJ9, "floorMod", "(II)I"⟩
abbrev cJ9_max_7cf53 : ByteArray := prog_15_method_65_code
def yJ9_max_7cf53 : MethodName := ⟨RJ9, "max", "(II)I"⟩
abbrev cJ9_max_f86c9 : ByteArray := prog_15_method_66_code
def yJ9_max_f86c9 : MethodName := ⟨RJ9, "max", "(JJ)J"⟩
abbrev cJ9_min_7cf53 : ByteArray := prog_15_method_69_code
def yJ9_min_7cf53 : MethodName := ⟨RJ9, "min", "(II)I"⟩
abbrev cJ9_min_f86c9 : ByteArray := prog_15_method_70_code
def yJ9_min_f86c9 : MethodName := ⟨RJ9, "min", "(JJ)J"⟩
def RJ0 : String := "java/lang/String"
def TJ0 : u_T := fun k => match k with
  | _ => ("", "", "", false)
def tyJ0 : Nat → FieldType := fun k => match k with
  | _ => .int
abbrev wsJ00 : List Cond := u_ws RJ0 TJ0 0
def RL : String := "SleepPlannerLaw"
abbrev cL_setState : ByteArray := method_3_code
def yL_setState : MethodName := ⟨RL, "setState", "(LSleepPlanner;IIII)I"⟩
abbrev cL_setAwake : ByteArray := method_4_code
def yL_setAwake : MethodName := ⟨RL, "setAwake", "(LSleepPlanner;I[J)I"⟩
abbrev cL_vote : ByteArray := method_5_code
def yL_vote : MethodName := ⟨RL, "vote", "(LSleepPlanner;II[J)I"⟩
abbrev cL_addClock : ByteArray := method_6_code
def yL_addClock : MethodName := ⟨RL, "addClock", "(LSleepPlanner;III[J)I"⟩
abbrev cL_use : ByteArray := method_7_code
def yL_use : MethodName := ⟨RL, "use", "(LSleepPlanner;I[J)I"⟩
abbrev cL_release : ByteArray := method_8_code
def yL_release : MethodName := ⟨RL, "release", "(LSleepPlanner;I[J)I"⟩
abbrev cL_runs : ByteArray := method_9_code
def yL_runs : MethodName := ⟨RL, "runs", "(LSleepPlanner;I[J)I"⟩
abbrev cL_frequency : ByteArray := method_10_code
def yL_frequency : MethodName := ⟨RL, "frequency", "(LSleepPlanner;I[J)I"⟩
abbrev cL_breakEven : ByteArray := method_11_code
def yL_breakEven : MethodName := ⟨RL, "breakEven", "(LSleepPlanner;I[J)I"⟩
abbrev cL_schedule : ByteArray := method_12_code
def yL_schedule : MethodName := ⟨RL, "schedule", "(LSleepPlanner;III[J)I"⟩
abbrev cL_addEvent : ByteArray := method_13_code
def yL_addEvent : MethodName := ⟨RL, "addEvent", "(LSleepPlanner;II[J)I"⟩
abbrev cL_setRule : ByteArray := method_14_code
def yL_setRule : MethodName := ⟨RL, "setRule", "(LSleepPlanner;I[J)I"⟩
abbrev cL_play : ByteArray := method_15_code
def yL_play : MethodName := ⟨RL, "play", "(LSleepPlanner;I[J)I"⟩
abbrev cL_ticksIn : ByteArray := method_16_code
def yL_ticksIn : MethodName := ⟨RL, "ticksIn", "(LSleepPlanner;I[J)I"⟩
abbrev cL_setHarvest : ByteArray := method_17_code
def yL_setHarvest : MethodName := ⟨RL, "setHarvest", "(LSleepPlanner;II[J)I"⟩
abbrev cL_plannedWakeups : ByteArray := method_18_code
def yL_plannedWakeups : MethodName := ⟨RL, "plannedWakeups", "(LSleepPlanner;I[J)I"⟩
abbrev cL_fewestWakeups : ByteArray := method_19_code
def yL_fewestWakeups : MethodName := ⟨RL, "fewestWakeups", "(LSleepPlanner;I[J)I"⟩
abbrev cL_plannedCost : ByteArray := method_20_code
def yL_plannedCost : MethodName := ⟨RL, "plannedCost", "(LSleepPlanner;I[J)I"⟩
abbrev cL_leastCost : ByteArray := method_21_code
def yL_leastCost : MethodName := ⟨RL, "leastCost", "(LSleepPlanner;I[J)I"⟩
abbrev cL_law : ByteArray := code
def yL_law : MethodName := ⟨RL, "law", "([I)Z"⟩
def wsX0_init : List Cond := .code yX0_init cX0_init 1 none :: ([.methodLink RX0 3 objectInit, .instanceMethod objectInit, .code objectInit ⟨#[0xb1]⟩ 1 none, .arrayClass .int, .fieldLink RX0 9 "SleepPlanner$Battery" "harvest" "[I", .constant RX0 15 (50000), .fieldLink RX0 16 "SleepPlanner$Battery" "available" "I", .constant RX0 20 (100000), .fieldLink RX0 21 "SleepPlanner$Battery" "bound" "I", .fieldLink RX0 24 "SleepPlanner$Battery" "shortTicks" "I"] ++ wsX00)
def wsX7_read : List Cond := .code yX7_read cX7_read 2 (some .int) :: ([])
def wsJ9_floorDiv_7cf53 : List Cond := .code yJ9_floorDiv_7cf53 cJ9_floorDiv_7cf53 3 (some .int) :: ([])
def wsX0_balance : List Cond := .code yX0_balance cX0_balance 2 none :: ([.fieldLink RX0 21 "SleepPlanner$Battery" "bound" "I", .fieldLink RX0 16 "SleepPlanner$Battery" "available" "I", .constant RX0 15 (50000), .methodLink RX0 49 Lib.Math.min.name, .static Lib.Math.min.name, .initialized "java/lang/Math", .code Lib.Math.min.name Lib.Math.min.code 2 (some .int), .constant RX0 20 (100000), .methodLink RX0 45 yJ9_floorDiv_7cf53, .static yJ9_floorDiv_7cf53, .initialized RJ9, .code yJ9_floorDiv_7cf53 cJ9_floorDiv_7cf53 3 (some .int)] ++ wsX00)
def wsX0_takeTick_r1 : List Cond := [Cond.fieldLink RX0 16 "SleepPlanner$Battery" "available" "I", Cond.fieldLink RX0 9 "SleepPlanner$Battery" "harvest" "[I", Cond.fieldLink RX0 24 "SleepPlanner$Battery" "shortTicks" "I", Cond.constantLong RX0 31 (50000), Cond.methodLink RX0 33 Lib.MathLoose.min_long.x, Cond.static Lib.MathLoose.min_long.x, Cond.initialized "java/lang/Math", Cond.code Lib.MathLoose.min_long.x Lib.MathLoose.min_long.code 4 (some .long), Cond.methodLink RX0 39 Lib.MathLoose.max_long.x, Cond.static Lib.MathLoose.max_long.x, Cond.code Lib.MathLoose.max_long.x Lib.MathLoose.max_long.code 4 (some .long), Cond.static yX7_read, Cond.initialized RX7, Cond.code yX7_read cX7_read 2 (some .int), Cond.methodLink RX0 42 yX0_balance, Cond.instanceMethod yX0_balance, Cond.selects RX0 yX0_balance yX0_balance, Cond.initialized RX0, Cond.code yX0_balance cX0_balance 2 none, Cond.fieldLink RX0 21 "SleepPlanner$Battery" "bound" "I", Cond.constant RX0 15 (50000), Cond.methodLink RX0 49 Lib.Math.min.name, Cond.static Lib.Math.min.name, Cond.code Lib.Math.min.name Lib.Math.min.code 2 (some .int)]
def wsX0_takeTick_r2 : List Cond := [Cond.constant RX0 20 (100000), Cond.methodLink RX0 45 yJ9_floorDiv_7cf53, Cond.static yJ9_floorDiv_7cf53, Cond.initialized RJ9, Cond.code yJ9_floorDiv_7cf53 cJ9_floorDiv_7cf53 3 (some .int)]
def wsX0_takeTick : List Cond := .code yX0_takeTick cX0_takeTick 6 none :: ((wsX0_takeTick_r1 ++ wsX0_takeTick_r2) ++ wsX00)
def wsX1_init : List Cond := .code yX1_init cX1_init 1 none :: ([.methodLink RX1 3 objectInit, .instanceMethod objectInit, .code objectInit ⟨#[0xb1]⟩ 1 none, .arrayClass .int, .fieldLink RX1 11 "SleepPlanner$Clocks" "parent" "[I", .fieldLink RX1 15 "SleepPlanner$Clocks" "frequency" "[I", .fieldLink RX1 18 "SleepPlanner$Clocks" "deepest" "[I", .fieldLink RX1 21 "SleepPlanner$Clocks" "uses" "[I", .arrayClass .boolean, .fieldLink RX1 24 "SleepPlanner$Clocks" "running" "[Z", .fieldLink RX1 28 "SleepPlanner$Clocks" "count" "I"] ++ wsX10)
def wsX1_has : List Cond := .code yX1_has cX1_has 2 (some .boolean) :: ([.fieldLink RX1 28 "SleepPlanner$Clocks" "count" "I"] ++ wsX10)
def wsX1_isFull : List Cond := .code yX1_isFull cX1_isFull 1 (some .boolean) :: ([.fieldLink RX1 28 "SleepPlanner$Clocks" "count" "I"] ++ wsX10)
def wsX1_add : List Cond := .code yX1_add cX1_add 4 (some .int) :: ([.fieldLink RX1 11 "SleepPlanner$Clocks" "parent" "[I", .fieldLink RX1 28 "SleepPlanner$Clocks" "count" "I", .fieldLink RX1 15 "SleepPlanner$Clocks" "frequency" "[I", .fieldLink RX1 18 "SleepPlanner$Clocks" "deepest" "[I", .fieldLink RX1 21 "SleepPlanner$Clocks" "uses" "[I", .methodLink RX1 32 yX1_isFull, .instanceMethod yX1_isFull, .selects RX1 yX1_isFull yX1_isFull, .initialized RX1, .code yX1_isFull cX1_isFull 1 (some .boolean), .static yX7_read, .initialized RX7, .code yX7_read cX7_read 2 (some .int)] ++ wsX10)
def wsX1_usesOf : List Cond := .code yX1_usesOf cX1_usesOf 2 (some .int) :: ([.fieldLink RX1 21 "SleepPlanner$Clocks" "uses" "[I", .static yX7_read, .initialized RX7, .code yX7_read cX7_read 2 (some .int)] ++ wsX10)
def wsX7_exchange : List Cond := .code yX7_exchange cX7_exchange 4 (some .int) :: ([])
def wsX1_changeUses : List Cond := .code yX1_changeUses cX1_changeUses 3 (some .int) :: ([.fieldLink RX1 21 "SleepPlanner$Clocks" "uses" "[I", .methodLink RX1 40 yX1_usesOf, .instanceMethod yX1_usesOf, .selects RX1 yX1_usesOf yX1_usesOf, .initialized RX1, .code yX1_usesOf cX1_usesOf 2 (some .int), .static yX7_read, .initialized RX7, .code yX7_read cX7_read 2 (some .int), .static yX7_exchange, .code yX7_exchange cX7_exchange 4 (some .int)] ++ wsX10)
def wsX1_frequencyOf : List Cond := .code yX1_frequencyOf cX1_frequencyOf 2 (some .int) :: ([.fieldLink RX1 15 "SleepPlanner$Clocks" "frequency" "[I", .static yX7_read, .initialized RX7, .code yX7_read cX7_read 2 (some .int)] ++ wsX10)
def wsX1_markRunning : List Cond := .code yX1_markRunning cX1_markRunning 2 none :: ([.fieldLink RX1 28 "SleepPlanner$Clocks" "count" "I", .fieldLink RX1 24 "SleepPlanner$Clocks" "running" "[Z", .fieldLink RX1 21 "SleepPlanner$Clocks" "uses" "[I", .fieldLink RX1 11 "SleepPlanner$Clocks" "parent" "[I", .methodLink RX1 51 yX1_has, .instanceMethod yX1_has, .selects RX1 yX1_has yX1_has, .initialized RX1, .code yX1_has cX1_has 2 (some .boolean)] ++ wsX10)
def wsX1_isRunning : List Cond := .code yX1_isRunning cX1_isRunning 2 (some .boolean) :: ([.fieldLink RX1 24 "SleepPlanner$Clocks" "running" "[Z", .methodLink RX1 48 yX1_markRunning, .instanceMethod yX1_markRunning, .selects RX1 yX1_markRunning yX1_markRunning, .initialized RX1, .code yX1_markRunning cX1_markRunning 2 none, .fieldLink RX1 28 "SleepPlanner$Clocks" "count" "I", .fieldLink RX1 21 "SleepPlanner$Clocks" "uses" "[I", .fieldLink RX1 11 "SleepPlanner$Clocks" "parent" "[I", .methodLink RX1 51 yX1_has, .instanceMethod yX1_has, .selects RX1 yX1_has yX1_has, .code yX1_has cX1_has 2 (some .boolean)] ++ wsX10)
def wsX1_leastDeepest : List Cond := .code yX1_leastDeepest cX1_leastDeepest 3 (some .int) :: ([.fieldLink RX1 28 "SleepPlanner$Clocks" "count" "I", .fieldLink RX1 24 "SleepPlanner$Clocks" "running" "[Z", .fieldLink RX1 18 "SleepPlanner$Clocks" "deepest" "[I", .methodLink RX1 55 Lib.Math.min.name, .static Lib.Math.min.name, .initialized "java/lang/Math", .code Lib.Math.min.name Lib.Math.min.code 2 (some .int), .methodLink RX1 48 yX1_markRunning, .instanceMethod yX1_markRunning, .selects RX1 yX1_markRunning yX1_markRunning, .initialized RX1, .code yX1_markRunning cX1_markRunning 2 none, .fieldLink RX1 21 "SleepPlanner$Clocks" "uses" "[I", .fieldLink RX1 11 "SleepPlanner$Clocks" "parent" "[I", .methodLink RX1 51 yX1_has, .instanceMethod yX1_has, .selects RX1 yX1_has yX1_has, .code yX1_has cX1_has 2 (some .boolean)] ++ wsX10)
def wsX2_init : List Cond := .code yX2_init cX2_init 1 none :: ([.methodLink RX2 3 objectInit, .instanceMethod objectInit, .code objectInit ⟨#[0xb1]⟩ 1 none, .arrayClass .int, .fieldLink RX2 11 "SleepPlanner$IdleTimes" "lengths" "[I", .fieldLink RX2 15 "SleepPlanner$IdleTimes" "count" "I"] ++ wsX20)
def wsX2_remember : List Cond := .code yX2_remember cX2_remember 3 none :: ([.fieldLink RX2 11 "SleepPlanner$IdleTimes" "lengths" "[I", .fieldLink RX2 15 "SleepPlanner$IdleTimes" "count" "I", .methodLink RX2 19 Lib.Math.min.name, .static Lib.Math.min.name, .initialized "java/lang/Math", .code Lib.Math.min.name Lib.Math.min.code 2 (some .int)] ++ wsX20)
def wsX2_mean : List Cond := .code yX2_mean cX2_mean 3 (some .int) :: ([.fieldLink RX2 15 "SleepPlanner$IdleTimes" "count" "I", .constant RX2 25 (1000000000), .fieldLink RX2 11 "SleepPlanner$IdleTimes" "lengths" "[I"] ++ wsX20)
def wsX3_init : List Cond := .code yX3_init cX3_init 1 none :: ([.methodLink RX3 3 objectInit, .instanceMethod objectInit, .code objectInit ⟨#[0xb1]⟩ 1 none, .arrayClass .int, .fieldLink RX3 11 "SleepPlanner$Jobs" "due" "[I", .fieldLink RX3 15 "SleepPlanner$Jobs" "latest" "[I", .fieldLink RX3 18 "SleepPlanner$Jobs" "work" "[I", .fieldLink RX3 21 "SleepPlanner$Jobs" "count" "I"] ++ wsX30)
def wsX3_isFull : List Cond := .code yX3_isFull cX3_isFull 1 (some .boolean) :: ([.fieldLink RX3 21 "SleepPlanner$Jobs" "count" "I"] ++ wsX30)
def wsX3_add : List Cond := .code yX3_add cX3_add 4 (some .int) :: ([.fieldLink RX3 21 "SleepPlanner$Jobs" "count" "I", .fieldLink RX3 11 "SleepPlanner$Jobs" "due" "[I", .fieldLink RX3 15 "SleepPlanner$Jobs" "latest" "[I", .fieldLink RX3 18 "SleepPlanner$Jobs" "work" "[I", .methodLink RX3 25 yX3_isFull, .instanceMethod yX3_isFull, .selects RX3 yX3_isFull yX3_isFull, .initialized RX3, .code yX3_isFull cX3_isFull 1 (some .boolean)] ++ wsX30)
def wsX3_isAnyDue : List Cond := .code yX3_isAnyDue cX3_isAnyDue 3 (some .boolean) :: ([.fieldLink RX3 21 "SleepPlanner$Jobs" "count" "I", .fieldLink RX3 11 "SleepPlanner$Jobs" "due" "[I"] ++ wsX30)
def wsX3_takeDue : List Cond := .code yX3_takeDue cX3_takeDue 5 (some .int) :: ([.fieldLink RX3 21 "SleepPlanner$Jobs" "count" "I", .fieldLink RX3 11 "SleepPlanner$Jobs" "due" "[I", .fieldLink RX3 18 "SleepPlanner$Jobs" "work" "[I", .fieldLink RX3 15 "SleepPlanner$Jobs" "latest" "[I"] ++ wsX30)
def wsX3_leastLatest : List Cond := .code yX3_leastLatest cX3_leastLatest 6 (some .int) :: ([.fieldLink RX3 21 "SleepPlanner$Jobs" "count" "I", .fieldLink RX3 11 "SleepPlanner$Jobs" "due" "[I", .fieldLink RX3 15 "SleepPlanner$Jobs" "latest" "[I"] ++ wsX30)
def wsX3_greatestDue : List Cond := .code yX3_greatestDue cX3_greatestDue 4 (some .int) :: ([.fieldLink RX3 21 "SleepPlanner$Jobs" "count" "I", .fieldLink RX3 15 "SleepPlanner$Jobs" "latest" "[I", .fieldLink RX3 11 "SleepPlanner$Jobs" "due" "[I", .methodLink RX3 29 Lib.Math.max.name, .static Lib.Math.max.name, .initialized "java/lang/Math", .code Lib.Math.max.name Lib.Math.max.code 2 (some .int)] ++ wsX30)
def wsX4_init : List Cond := .code yX4_init cX4_init 1 none :: ([.methodLink RX4 3 objectInit, .instanceMethod objectInit, .code objectInit ⟨#[0xb1]⟩ 1 none, .arrayClass .int, .fieldLink RX4 9 "SleepPlanner$Ledger" "ticksIn" "[I", .fieldLink RX4 15 "SleepPlanner$Ledger" "spent" "J", .fieldLink RX4 19 "SleepPlanner$Ledger" "unpaid" "J", .fieldLink RX4 22 "SleepPlanner$Ledger" "sleeps" "I", .fieldLink RX4 26 "SleepPlanner$Ledger" "lateness" "I", .fieldLink RX4 29 "SleepPlanner$Ledger" "served" "I"] ++ wsX40)
def wsX4_spend : List Cond := .code yX4_spend cX4_spend 3 none :: ([.fieldLink RX4 15 "SleepPlanner$Ledger" "spent" "J", .fieldLink RX4 19 "SleepPlanner$Ledger" "unpaid" "J"] ++ wsX40)
def wsX4_countTick : List Cond := .code yX4_countTick cX4_countTick 2 none :: ([.fieldLink RX4 9 "SleepPlanner$Ledger" "ticksIn" "[I", .static yX7_read, .initialized RX7, .code yX7_read cX7_read 2 (some .int), .static yX7_exchange, .code yX7_exchange cX7_exchange 4 (some .int)] ++ wsX40)
def wsX4_takeUnpaid : List Cond := .code yX4_takeUnpaid cX4_takeUnpaid 3 (some .long) :: ([.fieldLink RX4 19 "SleepPlanner$Ledger" "unpaid" "J"] ++ wsX40)
def wsX5_init : List Cond := .code yX5_init cX5_init 1 none :: ([.methodLink RX5 3 objectInit, .instanceMethod objectInit, .code objectInit ⟨#[0xb1]⟩ 1 none, .arrayClass .long, .fieldLink RX5 11 "SleepPlanner$Plans" "stepCost" "[J", .fieldLink RX5 15 "SleepPlanner$Plans" "leastTo" "[J"] ++ wsX50)
def wsX5_countPlanned : List Cond := .code yX5_countPlanned cX5_countPlanned 5 (some .int) :: ([.methodLink RX5 18 yX3_leastLatest, .instanceMethod yX3_leastLatest, .selects RX3 yX3_leastLatest yX3_leastLatest, .initialized RX3, .code yX3_leastLatest cX3_leastLatest 6 (some .int), .fieldLink RX3 21 "SleepPlanner$Jobs" "count" "I", .fieldLink RX3 11 "SleepPlanner$Jobs" "due" "[I", .fieldLink RX3 15 "SleepPlanner$Jobs" "latest" "[I"] ++ wsX30)
def wsX6_costOf : List Cond := .code yX6_costOf cX6_costOf 2 (some .int) :: ([.fieldLink RX6 15 "SleepPlanner$States" "cost" "[I", .static yX7_read, .initialized RX7, .code yX7_read cX7_read 2 (some .int)] ++ wsX60)
def wsX6_latencyOf : List Cond := .code yX6_latencyOf cX6_latencyOf 2 (some .int) :: ([.fieldLink RX6 18 "SleepPlanner$States" "latency" "[I", .static yX7_read, .initialized RX7, .code yX7_read cX7_read 2 (some .int)] ++ wsX60)
def wsX6_powerOf : List Cond := .code yX6_powerOf cX6_powerOf 2 (some .int) :: ([.fieldLink RX6 9 "SleepPlanner$States" "power" "[I", .static yX7_read, .initialized RX7, .code yX7_read cX7_read 2 (some .int)] ++ wsX60)
def wsX6_leastWorthwhile : List Cond := .code yX6_leastWorthwhile cX6_leastWorthwhile 4 (some .int) :: ([.methodLink RX6 36 yX6_costOf, .instanceMethod yX6_costOf, .selects RX6 yX6_costOf yX6_costOf, .initialized RX6, .code yX6_costOf cX6_costOf 2 (some .int), .fieldLink RX6 15 "SleepPlanner$States" "cost" "[I", .static yX7_read, .initialized RX7, .code yX7_read cX7_read 2 (some .int), .methodLink RX6 33 yX6_latencyOf, .instanceMethod yX6_latencyOf, .selects RX6 yX6_latencyOf yX6_latencyOf, .code yX6_latencyOf cX6_latencyOf 2 (some .int), .fieldLink RX6 18 "SleepPlanner$States" "latency" "[I", .methodLink RX6 29 yX6_powerOf, .instanceMethod yX6_powerOf, .selects RX6 yX6_powerOf yX6_powerOf, .code yX6_powerOf cX6_powerOf 2 (some .int), .fieldLink RX6 9 "SleepPlanner$States" "power" "[I"] ++ wsX60)
def wsX6_deepestWorthwhile : List Cond := .code yX6_deepestWorthwhile cX6_deepestWorthwhile 5 (some .int) :: ([.methodLink RX6 42 yX6_leastWorthwhile, .instanceMethod yX6_leastWorthwhile, .selects RX6 yX6_leastWorthwhile yX6_leastWorthwhile, .initialized RX6, .code yX6_leastWorthwhile cX6_leastWorthwhile 4 (some .int), .methodLink RX6 36 yX6_costOf, .instanceMethod yX6_costOf, .selects RX6 yX6_costOf yX6_costOf, .code yX6_costOf cX6_costOf 2 (some .int), .fieldLink RX6 15 "SleepPlanner$States" "cost" "[I", .static yX7_read, .initialized RX7, .code yX7_read cX7_read 2 (some .int), .methodLink RX6 33 yX6_latencyOf, .instanceMethod yX6_latencyOf, .selects RX6 yX6_latencyOf yX6_latencyOf, .code yX6_latencyOf cX6_latencyOf 2 (some .int), .fieldLink RX6 18 "SleepPlanner$States" "latency" "[I", .methodLink RX6 29 yX6_powerOf, .instanceMethod yX6_powerOf, .selects RX6 yX6_powerOf yX6_powerOf, .code yX6_powerOf cX6_powerOf 2 (some .int), .fieldLink RX6 9 "SleepPlanner$States" "power" "[I"] ++ wsX60)
def wsX6_wakingCost : List Cond := .code yX6_wakingCost cX6_wakingCost 2 (some .int) :: ([.methodLink RX6 29 yX6_powerOf, .instanceMethod yX6_powerOf, .selects RX6 yX6_powerOf yX6_powerOf, .initialized RX6, .code yX6_powerOf cX6_powerOf 2 (some .int), .fieldLink RX6 9 "SleepPlanner$States" "power" "[I", .static yX7_read, .initialized RX7, .code yX7_read cX7_read 2 (some .int), .methodLink RX6 33 yX6_latencyOf, .instanceMethod yX6_latencyOf, .selects RX6 yX6_latencyOf yX6_latencyOf, .code yX6_latencyOf cX6_latencyOf 2 (some .int), .fieldLink RX6 18 "SleepPlanner$States" "latency" "[I"] ++ wsX60)
def wsX6_idleCost : List Cond := .code yX6_idleCost cX6_idleCost 3 (some .int) :: ([.methodLink RX6 36 yX6_costOf, .instanceMethod yX6_costOf, .selects RX6 yX6_costOf yX6_costOf, .initialized RX6, .code yX6_costOf cX6_costOf 2 (some .int), .fieldLink RX6 15 "SleepPlanner$States" "cost" "[I", .static yX7_read, .initialized RX7, .code yX7_read cX7_read 2 (some .int), .methodLink RX6 29 yX6_powerOf, .instanceMethod yX6_powerOf, .selects RX6 yX6_powerOf yX6_powerOf, .code yX6_powerOf cX6_powerOf 2 (some .int), .fieldLink RX6 9 "SleepPlanner$States" "power" "[I", .methodLink RX6 33 yX6_latencyOf, .instanceMethod yX6_latencyOf, .selects RX6 yX6_latencyOf yX6_latencyOf, .code yX6_latencyOf cX6_latencyOf 2 (some .int), .fieldLink RX6 18 "SleepPlanner$States" "latency" "[I", .methodLink RX6 39 yX6_wakingCost, .instanceMethod yX6_wakingCost, .selects RX6 yX6_wakingCost yX6_wakingCost, .code yX6_wakingCost cX6_wakingCost 2 (some .int)] ++ wsX60)
def wsX6_plannedIdleCost_r1 : List Cond := [Cond.methodLink RX6 45 yX6_deepestWorthwhile, Cond.instanceMethod yX6_deepestWorthwhile, Cond.selects RX6 yX6_deepestWorthwhile yX6_deepestWorthwhile, Cond.initialized RX6, Cond.code yX6_deepestWorthwhile cX6_deepestWorthwhile 5 (some .int), Cond.methodLink RX6 42 yX6_leastWorthwhile, Cond.instanceMethod yX6_leastWorthwhile, Cond.selects RX6 yX6_leastWorthwhile yX6_leastWorthwhile, Cond.code yX6_leastWorthwhile cX6_leastWorthwhile 4 (some .int), Cond.methodLink RX6 36 yX6_costOf, Cond.instanceMethod yX6_costOf, Cond.selects RX6 yX6_costOf yX6_costOf, Cond.code yX6_costOf cX6_costOf 2 (some .int), Cond.fieldLink RX6 15 "SleepPlanner$States" "cost" "[I", Cond.static yX7_read, Cond.initialized RX7, Cond.code yX7_read cX7_read 2 (some .int), Cond.methodLink RX6 33 yX6_latencyOf, Cond.instanceMethod yX6_latencyOf, Cond.selects RX6 yX6_latencyOf yX6_latencyOf, Cond.code yX6_latencyOf cX6_latencyOf 2 (some .int), Cond.fieldLink RX6 18 "SleepPlanner$States" "latency" "[I", Cond.methodLink RX6 29 yX6_powerOf, Cond.instanceMethod yX6_powerOf]
def wsX6_plannedIdleCost_r2 : List Cond := [Cond.selects RX6 yX6_powerOf yX6_powerOf, Cond.code yX6_powerOf cX6_powerOf 2 (some .int), Cond.fieldLink RX6 9 "SleepPlanner$States" "power" "[I", Cond.methodLink RX6 49 yX6_idleCost, Cond.instanceMethod yX6_idleCost, Cond.selects RX6 yX6_idleCost yX6_idleCost, Cond.code yX6_idleCost cX6_idleCost 3 (some .int), Cond.methodLink RX6 39 yX6_wakingCost, Cond.instanceMethod yX6_wakingCost, Cond.selects RX6 yX6_wakingCost yX6_wakingCost, Cond.code yX6_wakingCost cX6_wakingCost 2 (some .int)]
def wsX6_plannedIdleCost : List Cond := .code yX6_plannedIdleCost cX6_plannedIdleCost 3 (some .int) :: ((wsX6_plannedIdleCost_r1 ++ wsX6_plannedIdleCost_r2) ++ wsX60)
def wsX5_sumPlanned_r1 : List Cond := [Cond.methodLink RX5 28 yX5_countPlanned, Cond.instanceMethod yX5_countPlanned, Cond.selects RX5 yX5_countPlanned yX5_countPlanned, Cond.initialized RX5, Cond.code yX5_countPlanned cX5_countPlanned 5 (some .int), Cond.methodLink RX5 18 yX3_leastLatest, Cond.instanceMethod yX3_leastLatest, Cond.selects RX3 yX3_leastLatest yX3_leastLatest, Cond.initialized RX3, Cond.code yX3_leastLatest cX3_leastLatest 6 (some .int), Cond.fieldLink RX3 21 "SleepPlanner$Jobs" "count" "I", Cond.fieldLink RX3 11 "SleepPlanner$Jobs" "due" "[I", Cond.fieldLink RX3 15 "SleepPlanner$Jobs" "latest" "[I", Cond.methodLink RX5 32 yX6_plannedIdleCost, Cond.instanceMethod yX6_plannedIdleCost, Cond.selects RX6 yX6_plannedIdleCost yX6_plannedIdleCost, Cond.initialized RX6, Cond.code yX6_plannedIdleCost cX6_plannedIdleCost 3 (some .int), Cond.methodLink RX6 45 yX6_deepestWorthwhile, Cond.instanceMethod yX6_deepestWorthwhile, Cond.selects RX6 yX6_deepestWorthwhile yX6_deepestWorthwhile, Cond.code yX6_deepestWorthwhile cX6_deepestWorthwhile 5 (some .int), Cond.methodLink RX6 42 yX6_leastWorthwhile, Cond.instanceMethod yX6_leastWorthwhile]
def wsX5_sumPlanned_r2 : List Cond := [Cond.selects RX6 yX6_leastWorthwhile yX6_leastWorthwhile, Cond.code yX6_leastWorthwhile cX6_leastWorthwhile 4 (some .int), Cond.methodLink RX6 36 yX6_costOf, Cond.instanceMethod yX6_costOf, Cond.selects RX6 yX6_costOf yX6_costOf, Cond.code yX6_costOf cX6_costOf 2 (some .int), Cond.fieldLink RX6 15 "SleepPlanner$States" "cost" "[I", Cond.static yX7_read, Cond.initialized RX7, Cond.code yX7_read cX7_read 2 (some .int), Cond.methodLink RX6 33 yX6_latencyOf, Cond.instanceMethod yX6_latencyOf, Cond.selects RX6 yX6_latencyOf yX6_latencyOf, Cond.code yX6_latencyOf cX6_latencyOf 2 (some .int), Cond.fieldLink RX6 18 "SleepPlanner$States" "latency" "[I", Cond.methodLink RX6 29 yX6_powerOf, Cond.instanceMethod yX6_powerOf, Cond.selects RX6 yX6_powerOf yX6_powerOf, Cond.code yX6_powerOf cX6_powerOf 2 (some .int), Cond.fieldLink RX6 9 "SleepPlanner$States" "power" "[I", Cond.methodLink RX6 49 yX6_idleCost, Cond.instanceMethod yX6_idleCost, Cond.selects RX6 yX6_idleCost yX6_idleCost, Cond.code yX6_idleCost cX6_idleCost 3 (some .int)]
def wsX5_sumPlanned_r3 : List Cond := [Cond.methodLink RX6 39 yX6_wakingCost, Cond.instanceMethod yX6_wakingCost, Cond.selects RX6 yX6_wakingCost yX6_wakingCost, Cond.code yX6_wakingCost cX6_wakingCost 2 (some .int)]
def wsX5_sumPlanned : List Cond := .code yX5_sumPlanned cX5_sumPlanned 12 (some .long) :: ((wsX5_sumPlanned_r1 ++ (wsX5_sumPlanned_r2 ++ wsX5_sumPlanned_r3)) ++ wsX30 ++ wsX60)
def wsX5_earliestBefore : List Cond := .code yX5_earliestBefore cX5_earliestBefore 6 (some .int) :: ([.methodLink RX5 56 Lib.Math.max.name, .static Lib.Math.max.name, .initialized "java/lang/Math", .code Lib.Math.max.name Lib.Math.max.code 2 (some .int), .methodLink RX5 52 yX3_greatestDue, .instanceMethod yX3_greatestDue, .selects RX3 yX3_greatestDue yX3_greatestDue, .initialized RX3, .code yX3_greatestDue cX3_greatestDue 4 (some .int), .fieldLink RX3 21 "SleepPlanner$Jobs" "count" "I", .fieldLink RX3 15 "SleepPlanner$Jobs" "latest" "[I", .fieldLink RX3 11 "SleepPlanner$Jobs" "due" "[I", .methodLink RX3 29 Lib.Math.max.name] ++ wsX30)
def wsX5_leastSumTo : List Cond := .code yX5_leastSumTo cX5_leastSumTo 8 (some .long) :: ([.constantLong RX5 61 (1000000000000), .methodLink RX5 56 Lib.Math.max.name, .static Lib.Math.max.name, .initialized "java/lang/Math", .code Lib.Math.max.name Lib.Math.max.code 2 (some .int), .fieldLink RX5 15 "SleepPlanner$Plans" "leastTo" "[J", .fieldLink RX5 11 "SleepPlanner$Plans" "stepCost" "[J"] ++ wsX50)
def wsX5_leastSum_r1 : List Cond := [Cond.fieldLink RX5 15 "SleepPlanner$Plans" "leastTo" "[J", Cond.methodLink RX5 44 yX5_earliestBefore, Cond.instanceMethod yX5_earliestBefore, Cond.selects RX5 yX5_earliestBefore yX5_earliestBefore, Cond.initialized RX5, Cond.code yX5_earliestBefore cX5_earliestBefore 6 (some .int), Cond.methodLink RX5 56 Lib.Math.max.name, Cond.static Lib.Math.max.name, Cond.initialized "java/lang/Math", Cond.code Lib.Math.max.name Lib.Math.max.code 2 (some .int), Cond.methodLink RX5 52 yX3_greatestDue, Cond.instanceMethod yX3_greatestDue, Cond.selects RX3 yX3_greatestDue yX3_greatestDue, Cond.initialized RX3, Cond.code yX3_greatestDue cX3_greatestDue 4 (some .int), Cond.fieldLink RX3 21 "SleepPlanner$Jobs" "count" "I", Cond.fieldLink RX3 15 "SleepPlanner$Jobs" "latest" "[I", Cond.fieldLink RX3 11 "SleepPlanner$Jobs" "due" "[I", Cond.methodLink RX3 29 Lib.Math.max.name, Cond.methodLink RX5 48 yX5_leastSumTo, Cond.instanceMethod yX5_leastSumTo, Cond.selects RX5 yX5_leastSumTo yX5_leastSumTo, Cond.code yX5_leastSumTo cX5_leastSumTo 8 (some .long), Cond.constantLong RX5 61 (1000000000000)]
def wsX5_leastSum_r2 : List Cond := [Cond.fieldLink RX5 11 "SleepPlanner$Plans" "stepCost" "[J"]
def wsX5_leastSum : List Cond := .code yX5_leastSum cX5_leastSum 7 (some .long) :: ((wsX5_leastSum_r1 ++ wsX5_leastSum_r2) ++ wsX50 ++ wsX30)
def wsX5_countFewest_r1 : List Cond := [Cond.fieldLink RX5 11 "SleepPlanner$Plans" "stepCost" "[J", Cond.methodLink RX5 37 yX5_leastSum, Cond.instanceMethod yX5_leastSum, Cond.selects RX5 yX5_leastSum yX5_leastSum, Cond.initialized RX5, Cond.code yX5_leastSum cX5_leastSum 7 (some .long), Cond.fieldLink RX5 15 "SleepPlanner$Plans" "leastTo" "[J", Cond.methodLink RX5 44 yX5_earliestBefore, Cond.instanceMethod yX5_earliestBefore, Cond.selects RX5 yX5_earliestBefore yX5_earliestBefore, Cond.code yX5_earliestBefore cX5_earliestBefore 6 (some .int), Cond.methodLink RX5 56 Lib.Math.max.name, Cond.static Lib.Math.max.name, Cond.initialized "java/lang/Math", Cond.code Lib.Math.max.name Lib.Math.max.code 2 (some .int), Cond.methodLink RX5 52 yX3_greatestDue, Cond.instanceMethod yX3_greatestDue, Cond.selects RX3 yX3_greatestDue yX3_greatestDue, Cond.initialized RX3, Cond.code yX3_greatestDue cX3_greatestDue 4 (some .int), Cond.fieldLink RX3 21 "SleepPlanner$Jobs" "count" "I", Cond.fieldLink RX3 15 "SleepPlanner$Jobs" "latest" "[I", Cond.fieldLink RX3 11 "SleepPlanner$Jobs" "due" "[I", Cond.methodLink RX3 29 Lib.Math.max.name]
def wsX5_countFewest_r2 : List Cond := [Cond.methodLink RX5 48 yX5_leastSumTo, Cond.instanceMethod yX5_leastSumTo, Cond.selects RX5 yX5_leastSumTo yX5_leastSumTo, Cond.code yX5_leastSumTo cX5_leastSumTo 8 (some .long), Cond.constantLong RX5 61 (1000000000000)]
def wsX5_countFewest : List Cond := .code yX5_countFewest cX5_countFewest 5 (some .int) :: ((wsX5_countFewest_r1 ++ wsX5_countFewest_r2) ++ wsX50 ++ wsX30)
def wsX6_leastIdleCost_r1 : List Cond := [Cond.methodLink RX6 52 Lib.Math.min.name, Cond.static Lib.Math.min.name, Cond.initialized "java/lang/Math", Cond.code Lib.Math.min.name Lib.Math.min.code 2 (some .int), Cond.methodLink RX6 49 yX6_idleCost, Cond.instanceMethod yX6_idleCost, Cond.selects RX6 yX6_idleCost yX6_idleCost, Cond.initialized RX6, Cond.code yX6_idleCost cX6_idleCost 3 (some .int), Cond.methodLink RX6 36 yX6_costOf, Cond.instanceMethod yX6_costOf, Cond.selects RX6 yX6_costOf yX6_costOf, Cond.code yX6_costOf cX6_costOf 2 (some .int), Cond.fieldLink RX6 15 "SleepPlanner$States" "cost" "[I", Cond.static yX7_read, Cond.initialized RX7, Cond.code yX7_read cX7_read 2 (some .int), Cond.methodLink RX6 29 yX6_powerOf, Cond.instanceMethod yX6_powerOf, Cond.selects RX6 yX6_powerOf yX6_powerOf, Cond.code yX6_powerOf cX6_powerOf 2 (some .int), Cond.fieldLink RX6 9 "SleepPlanner$States" "power" "[I", Cond.methodLink RX6 33 yX6_latencyOf, Cond.instanceMethod yX6_latencyOf]
def wsX6_leastIdleCost_r2 : List Cond := [Cond.selects RX6 yX6_latencyOf yX6_latencyOf, Cond.code yX6_latencyOf cX6_latencyOf 2 (some .int), Cond.fieldLink RX6 18 "SleepPlanner$States" "latency" "[I", Cond.methodLink RX6 39 yX6_wakingCost, Cond.instanceMethod yX6_wakingCost, Cond.selects RX6 yX6_wakingCost yX6_wakingCost, Cond.code yX6_wakingCost cX6_wakingCost 2 (some .int)]
def wsX6_leastIdleCost : List Cond := .code yX6_leastIdleCost cX6_leastIdleCost 5 (some .int) :: ((wsX6_leastIdleCost_r1 ++ wsX6_leastIdleCost_r2) ++ wsX60)
def wsX5_sumLeast_r1 : List Cond := [Cond.fieldLink RX5 11 "SleepPlanner$Plans" "stepCost" "[J", Cond.methodLink RX5 41 yX6_leastIdleCost, Cond.instanceMethod yX6_leastIdleCost, Cond.selects RX6 yX6_leastIdleCost yX6_leastIdleCost, Cond.initialized RX6, Cond.code yX6_leastIdleCost cX6_leastIdleCost 5 (some .int), Cond.methodLink RX6 52 Lib.Math.min.name, Cond.static Lib.Math.min.name, Cond.initialized "java/lang/Math", Cond.code Lib.Math.min.name Lib.Math.min.code 2 (some .int), Cond.methodLink RX6 49 yX6_idleCost, Cond.instanceMethod yX6_idleCost, Cond.selects RX6 yX6_idleCost yX6_idleCost, Cond.code yX6_idleCost cX6_idleCost 3 (some .int), Cond.methodLink RX6 36 yX6_costOf, Cond.instanceMethod yX6_costOf, Cond.selects RX6 yX6_costOf yX6_costOf, Cond.code yX6_costOf cX6_costOf 2 (some .int), Cond.fieldLink RX6 15 "SleepPlanner$States" "cost" "[I", Cond.static yX7_read, Cond.initialized RX7, Cond.code yX7_read cX7_read 2 (some .int), Cond.methodLink RX6 29 yX6_powerOf, Cond.instanceMethod yX6_powerOf]
def wsX5_sumLeast_r2 : List Cond := [Cond.selects RX6 yX6_powerOf yX6_powerOf, Cond.code yX6_powerOf cX6_powerOf 2 (some .int), Cond.fieldLink RX6 9 "SleepPlanner$States" "power" "[I", Cond.methodLink RX6 33 yX6_latencyOf, Cond.instanceMethod yX6_latencyOf, Cond.selects RX6 yX6_latencyOf yX6_latencyOf, Cond.code yX6_latencyOf cX6_latencyOf 2 (some .int), Cond.fieldLink RX6 18 "SleepPlanner$States" "latency" "[I", Cond.methodLink RX6 39 yX6_wakingCost, Cond.instanceMethod yX6_wakingCost, Cond.selects RX6 yX6_wakingCost yX6_wakingCost, Cond.code yX6_wakingCost cX6_wakingCost 2 (some .int), Cond.methodLink RX5 37 yX5_leastSum, Cond.instanceMethod yX5_leastSum, Cond.selects RX5 yX5_leastSum yX5_leastSum, Cond.initialized RX5, Cond.code yX5_leastSum cX5_leastSum 7 (some .long), Cond.fieldLink RX5 15 "SleepPlanner$Plans" "leastTo" "[J", Cond.methodLink RX5 44 yX5_earliestBefore, Cond.instanceMethod yX5_earliestBefore, Cond.selects RX5 yX5_earliestBefore yX5_earliestBefore, Cond.code yX5_earliestBefore cX5_earliestBefore 6 (some .int), Cond.methodLink RX5 56 Lib.Math.max.name, Cond.static Lib.Math.max.name]
def wsX5_sumLeast_r3 : List Cond := [Cond.code Lib.Math.max.name Lib.Math.max.code 2 (some .int), Cond.methodLink RX5 52 yX3_greatestDue, Cond.instanceMethod yX3_greatestDue, Cond.selects RX3 yX3_greatestDue yX3_greatestDue, Cond.initialized RX3, Cond.code yX3_greatestDue cX3_greatestDue 4 (some .int), Cond.fieldLink RX3 21 "SleepPlanner$Jobs" "count" "I", Cond.fieldLink RX3 15 "SleepPlanner$Jobs" "latest" "[I", Cond.fieldLink RX3 11 "SleepPlanner$Jobs" "due" "[I", Cond.methodLink RX3 29 Lib.Math.max.name, Cond.methodLink RX5 48 yX5_leastSumTo, Cond.instanceMethod yX5_leastSumTo, Cond.selects RX5 yX5_leastSumTo yX5_leastSumTo, Cond.code yX5_leastSumTo cX5_leastSumTo 8 (some .long), Cond.constantLong RX5 61 (1000000000000)]
def wsX5_sumLeast : List Cond := .code yX5_sumLeast cX5_sumLeast 7 (some .long) :: ((wsX5_sumLeast_r1 ++ (wsX5_sumLeast_r2 ++ wsX5_sumLeast_r3)) ++ wsX50 ++ wsX60 ++ wsX30)
def wsX6_init : List Cond := .code yX6_init cX6_init 1 none :: ([.methodLink RX6 3 objectInit, .instanceMethod objectInit, .code objectInit ⟨#[0xb1]⟩ 1 none, .arrayClass .int, .fieldLink RX6 9 "SleepPlanner$States" "power" "[I", .fieldLink RX6 15 "SleepPlanner$States" "cost" "[I", .fieldLink RX6 18 "SleepPlanner$States" "latency" "[I"] ++ wsX60)
def wsX6_change : List Cond := .code yX6_change cX6_change 5 none :: ([.fieldLink RX6 9 "SleepPlanner$States" "power" "[I", .fieldLink RX6 15 "SleepPlanner$States" "cost" "[I", .fieldLink RX6 18 "SleepPlanner$States" "latency" "[I", .static yX7_exchange, .initialized RX7, .code yX7_exchange cX7_exchange 4 (some .int)] ++ wsX60)
def wsX6_deepestThatWakes : List Cond := .code yX6_deepestThatWakes cX6_deepestThatWakes 4 (some .int) :: ([.methodLink RX6 33 yX6_latencyOf, .instanceMethod yX6_latencyOf, .selects RX6 yX6_latencyOf yX6_latencyOf, .initialized RX6, .code yX6_latencyOf cX6_latencyOf 2 (some .int), .fieldLink RX6 18 "SleepPlanner$States" "latency" "[I", .static yX7_read, .initialized RX7, .code yX7_read cX7_read 2 (some .int)] ++ wsX60)
def wsX7_init_r1 : List Cond := [Cond.methodLink RX7 1 objectInit, Cond.instanceMethod objectInit, Cond.code objectInit ⟨#[0xb1]⟩ 1 none, Cond.classLink RX7 7 RX6, Cond.instantiable RX6 3, Cond.initialized RX6, Cond.fieldLink RX7 10 "SleepPlanner" "states" "LSleepPlanner$States;", Cond.arrayClass .int, Cond.fieldLink RX7 16 "SleepPlanner" "votes" "[I", Cond.classLink RX7 20 RX1, Cond.instantiable RX1 6, Cond.initialized RX1, Cond.fieldLink RX7 23 "SleepPlanner" "clocks" "LSleepPlanner$Clocks;", Cond.classLink RX7 27 RX3, Cond.instantiable RX3 4, Cond.initialized RX3, Cond.fieldLink RX7 30 "SleepPlanner" "timers" "LSleepPlanner$Jobs;", Cond.fieldLink RX7 34 "SleepPlanner" "events" "LSleepPlanner$Jobs;", Cond.classLink RX7 37 RX2, Cond.instantiable RX2 2, Cond.initialized RX2, Cond.fieldLink RX7 40 "SleepPlanner" "idleTimes" "LSleepPlanner$IdleTimes;", Cond.classLink RX7 44 RX4, Cond.instantiable RX4 6]
def wsX7_init_r2 : List Cond := [Cond.initialized RX4, Cond.fieldLink RX7 47 "SleepPlanner" "ledger" "LSleepPlanner$Ledger;", Cond.classLink RX7 51 RX0, Cond.instantiable RX0 4, Cond.initialized RX0, Cond.fieldLink RX7 54 "SleepPlanner" "battery" "LSleepPlanner$Battery;", Cond.classLink RX7 58 RX5, Cond.instantiable RX5 2, Cond.initialized RX5, Cond.fieldLink RX7 61 "SleepPlanner" "plans" "LSleepPlanner$Plans;", Cond.fieldLink RX7 65 "SleepPlanner" "rule" "I", Cond.fieldLink RX7 69 "SleepPlanner" "now" "I", Cond.fieldLink RX7 72 "SleepPlanner" "state" "I", Cond.fieldLink RX7 75 "SleepPlanner" "asleepSince" "I", Cond.methodLink RX7 9 yX6_init, Cond.instanceMethod yX6_init, Cond.code yX6_init cX6_init 1 none, Cond.methodLink RX6 3 objectInit, Cond.fieldLink RX6 9 "SleepPlanner$States" "power" "[I", Cond.fieldLink RX6 15 "SleepPlanner$States" "cost" "[I", Cond.fieldLink RX6 18 "SleepPlanner$States" "latency" "[I", Cond.methodLink RX7 22 yX1_init, Cond.instanceMethod yX1_init, Cond.code yX1_init cX1_init 1 none]
def wsX7_init_r3 : List Cond := [Cond.methodLink RX1 3 objectInit, Cond.fieldLink RX1 11 "SleepPlanner$Clocks" "parent" "[I", Cond.fieldLink RX1 15 "SleepPlanner$Clocks" "frequency" "[I", Cond.fieldLink RX1 18 "SleepPlanner$Clocks" "deepest" "[I", Cond.fieldLink RX1 21 "SleepPlanner$Clocks" "uses" "[I", Cond.arrayClass .boolean, Cond.fieldLink RX1 24 "SleepPlanner$Clocks" "running" "[Z", Cond.fieldLink RX1 28 "SleepPlanner$Clocks" "count" "I", Cond.methodLink RX7 29 yX3_init, Cond.instanceMethod yX3_init, Cond.code yX3_init cX3_init 1 none, Cond.methodLink RX3 3 objectInit, Cond.fieldLink RX3 11 "SleepPlanner$Jobs" "due" "[I", Cond.fieldLink RX3 15 "SleepPlanner$Jobs" "latest" "[I", Cond.fieldLink RX3 18 "SleepPlanner$Jobs" "work" "[I", Cond.fieldLink RX3 21 "SleepPlanner$Jobs" "count" "I", Cond.methodLink RX7 39 yX2_init, Cond.instanceMethod yX2_init, Cond.code yX2_init cX2_init 1 none, Cond.methodLink RX2 3 objectInit, Cond.fieldLink RX2 11 "SleepPlanner$IdleTimes" "lengths" "[I", Cond.fieldLink RX2 15 "SleepPlanner$IdleTimes" "count" "I", Cond.methodLink RX7 46 yX4_init, Cond.instanceMethod yX4_init]
def wsX7_init_r4 : List Cond := [Cond.code yX4_init cX4_init 1 none, Cond.methodLink RX4 3 objectInit, Cond.fieldLink RX4 9 "SleepPlanner$Ledger" "ticksIn" "[I", Cond.fieldLink RX4 15 "SleepPlanner$Ledger" "spent" "J", Cond.fieldLink RX4 19 "SleepPlanner$Ledger" "unpaid" "J", Cond.fieldLink RX4 22 "SleepPlanner$Ledger" "sleeps" "I", Cond.fieldLink RX4 26 "SleepPlanner$Ledger" "lateness" "I", Cond.fieldLink RX4 29 "SleepPlanner$Ledger" "served" "I", Cond.methodLink RX7 53 yX0_init, Cond.instanceMethod yX0_init, Cond.code yX0_init cX0_init 1 none, Cond.methodLink RX0 3 objectInit, Cond.fieldLink RX0 9 "SleepPlanner$Battery" "harvest" "[I", Cond.constant RX0 15 (50000), Cond.fieldLink RX0 16 "SleepPlanner$Battery" "available" "I", Cond.constant RX0 20 (100000), Cond.fieldLink RX0 21 "SleepPlanner$Battery" "bound" "I", Cond.fieldLink RX0 24 "SleepPlanner$Battery" "shortTicks" "I", Cond.methodLink RX7 60 yX5_init, Cond.instanceMethod yX5_init, Cond.code yX5_init cX5_init 1 none, Cond.methodLink RX5 3 objectInit, Cond.arrayClass .long, Cond.fieldLink RX5 11 "SleepPlanner$Plans" "stepCost" "[J"]
def wsX7_init_r5 : List Cond := [Cond.fieldLink RX5 15 "SleepPlanner$Plans" "leastTo" "[J"]
def wsX7_init : List Cond := .code yX7_init cX7_init 1 none :: ((wsX7_init_r1 ++ (wsX7_init_r2 ++ (wsX7_init_r3 ++ (wsX7_init_r4 ++ wsX7_init_r5)))) ++ wsX60 ++ wsX70 ++ wsX10 ++ wsX30 ++ wsX20 ++ wsX40 ++ wsX00 ++ wsX50)
def wsX7_isWithin : List Cond := .code yX7_isWithin cX7_isWithin 3 (some .boolean) :: ([])
def wsX7_endIdleTime : List Cond := .code yX7_endIdleTime cX7_endIdleTime 1 none :: ([.fieldLink RX7 40 "SleepPlanner" "idleTimes" "LSleepPlanner$IdleTimes;", .fieldLink RX7 69 "SleepPlanner" "now" "I", .fieldLink RX7 75 "SleepPlanner" "asleepSince" "I", .fieldLink RX7 72 "SleepPlanner" "state" "I", .methodLink RX7 292 yX2_remember, .instanceMethod yX2_remember, .selects RX2 yX2_remember yX2_remember, .initialized RX2, .code yX2_remember cX2_remember 3 none, .fieldLink RX2 11 "SleepPlanner$IdleTimes" "lengths" "[I", .fieldLink RX2 15 "SleepPlanner$IdleTimes" "count" "I", .methodLink RX2 19 Lib.Math.min.name, .static Lib.Math.min.name, .initialized "java/lang/Math", .code Lib.Math.min.name Lib.Math.min.code 2 (some .int)] ++ wsX70 ++ wsX20)
def wsX7_wakeForCall_r1 : List Cond := [Cond.fieldLink RX7 72 "SleepPlanner" "state" "I", Cond.fieldLink RX7 47 "SleepPlanner" "ledger" "LSleepPlanner$Ledger;", Cond.fieldLink RX7 10 "SleepPlanner" "states" "LSleepPlanner$States;", Cond.methodLink RX7 283 yX6_wakingCost, Cond.instanceMethod yX6_wakingCost, Cond.selects RX6 yX6_wakingCost yX6_wakingCost, Cond.initialized RX6, Cond.code yX6_wakingCost cX6_wakingCost 2 (some .int), Cond.methodLink RX6 29 yX6_powerOf, Cond.instanceMethod yX6_powerOf, Cond.selects RX6 yX6_powerOf yX6_powerOf, Cond.code yX6_powerOf cX6_powerOf 2 (some .int), Cond.fieldLink RX6 9 "SleepPlanner$States" "power" "[I", Cond.static yX7_read, Cond.initialized RX7, Cond.code yX7_read cX7_read 2 (some .int), Cond.methodLink RX6 33 yX6_latencyOf, Cond.instanceMethod yX6_latencyOf, Cond.selects RX6 yX6_latencyOf yX6_latencyOf, Cond.code yX6_latencyOf cX6_latencyOf 2 (some .int), Cond.fieldLink RX6 18 "SleepPlanner$States" "latency" "[I", Cond.methodLink RX7 262 yX4_spend, Cond.instanceMethod yX4_spend, Cond.selects RX4 yX4_spend yX4_spend]
def wsX7_wakeForCall_r2 : List Cond := [Cond.initialized RX4, Cond.code yX4_spend cX4_spend 3 none, Cond.fieldLink RX4 15 "SleepPlanner$Ledger" "spent" "J", Cond.fieldLink RX4 19 "SleepPlanner$Ledger" "unpaid" "J", Cond.methodLink RX7 289 yX7_endIdleTime, Cond.instanceMethod yX7_endIdleTime, Cond.selects RX7 yX7_endIdleTime yX7_endIdleTime, Cond.code yX7_endIdleTime cX7_endIdleTime 1 none, Cond.fieldLink RX7 40 "SleepPlanner" "idleTimes" "LSleepPlanner$IdleTimes;", Cond.fieldLink RX7 69 "SleepPlanner" "now" "I", Cond.fieldLink RX7 75 "SleepPlanner" "asleepSince" "I", Cond.methodLink RX7 292 yX2_remember, Cond.instanceMethod yX2_remember, Cond.selects RX2 yX2_remember yX2_remember, Cond.initialized RX2, Cond.code yX2_remember cX2_remember 3 none, Cond.fieldLink RX2 11 "SleepPlanner$IdleTimes" "lengths" "[I", Cond.fieldLink RX2 15 "SleepPlanner$IdleTimes" "count" "I", Cond.methodLink RX2 19 Lib.Math.min.name, Cond.static Lib.Math.min.name, Cond.initialized "java/lang/Math", Cond.code Lib.Math.min.name Lib.Math.min.code 2 (some .int)]
def wsX7_wakeForCall : List Cond := .code yX7_wakeForCall cX7_wakeForCall 1 none :: ((wsX7_wakeForCall_r1 ++ wsX7_wakeForCall_r2) ++ wsX70 ++ wsX60 ++ wsX40 ++ wsX20)
def wsX7_setState_r1 : List Cond := [Cond.classLink RX7 82 "java/lang/IllegalArgumentException", Cond.initialized "java/lang/IllegalArgumentException", Cond.fieldLink RX7 10 "SleepPlanner" "states" "LSleepPlanner$States;", Cond.methodLink RX7 78 yX7_isWithin, Cond.static yX7_isWithin, Cond.initialized RX7, Cond.code yX7_isWithin cX7_isWithin 3 (some .boolean), Cond.methodLink RX7 89 yX7_wakeForCall, Cond.instanceMethod yX7_wakeForCall, Cond.selects RX7 yX7_wakeForCall yX7_wakeForCall, Cond.code yX7_wakeForCall cX7_wakeForCall 1 none, Cond.fieldLink RX7 72 "SleepPlanner" "state" "I", Cond.fieldLink RX7 47 "SleepPlanner" "ledger" "LSleepPlanner$Ledger;", Cond.methodLink RX7 283 yX6_wakingCost, Cond.instanceMethod yX6_wakingCost, Cond.selects RX6 yX6_wakingCost yX6_wakingCost, Cond.initialized RX6, Cond.code yX6_wakingCost cX6_wakingCost 2 (some .int), Cond.methodLink RX6 29 yX6_powerOf, Cond.instanceMethod yX6_powerOf, Cond.selects RX6 yX6_powerOf yX6_powerOf, Cond.code yX6_powerOf cX6_powerOf 2 (some .int), Cond.fieldLink RX6 9 "SleepPlanner$States" "power" "[I", Cond.static yX7_read]
def wsX7_setState_r2 : List Cond := [Cond.code yX7_read cX7_read 2 (some .int), Cond.methodLink RX6 33 yX6_latencyOf, Cond.instanceMethod yX6_latencyOf, Cond.selects RX6 yX6_latencyOf yX6_latencyOf, Cond.code yX6_latencyOf cX6_latencyOf 2 (some .int), Cond.fieldLink RX6 18 "SleepPlanner$States" "latency" "[I", Cond.methodLink RX7 262 yX4_spend, Cond.instanceMethod yX4_spend, Cond.selects RX4 yX4_spend yX4_spend, Cond.initialized RX4, Cond.code yX4_spend cX4_spend 3 none, Cond.fieldLink RX4 15 "SleepPlanner$Ledger" "spent" "J", Cond.fieldLink RX4 19 "SleepPlanner$Ledger" "unpaid" "J", Cond.methodLink RX7 289 yX7_endIdleTime, Cond.instanceMethod yX7_endIdleTime, Cond.selects RX7 yX7_endIdleTime yX7_endIdleTime, Cond.code yX7_endIdleTime cX7_endIdleTime 1 none, Cond.fieldLink RX7 40 "SleepPlanner" "idleTimes" "LSleepPlanner$IdleTimes;", Cond.fieldLink RX7 69 "SleepPlanner" "now" "I", Cond.fieldLink RX7 75 "SleepPlanner" "asleepSince" "I", Cond.methodLink RX7 292 yX2_remember, Cond.instanceMethod yX2_remember, Cond.selects RX2 yX2_remember yX2_remember, Cond.initialized RX2]
def wsX7_setState_r3 : List Cond := [Cond.code yX2_remember cX2_remember 3 none, Cond.fieldLink RX2 11 "SleepPlanner$IdleTimes" "lengths" "[I", Cond.fieldLink RX2 15 "SleepPlanner$IdleTimes" "count" "I", Cond.methodLink RX2 19 Lib.Math.min.name, Cond.static Lib.Math.min.name, Cond.initialized "java/lang/Math", Cond.code Lib.Math.min.name Lib.Math.min.code 2 (some .int), Cond.methodLink RX7 92 yX6_change, Cond.instanceMethod yX6_change, Cond.selects RX6 yX6_change yX6_change, Cond.code yX6_change cX6_change 5 none, Cond.fieldLink RX6 15 "SleepPlanner$States" "cost" "[I", Cond.static yX7_exchange, Cond.code yX7_exchange cX7_exchange 4 (some .int)]
def wsX7_setState : List Cond := .code yX7_setState cX7_setState 5 none :: ((wsX7_setState_r1 ++ (wsX7_setState_r2 ++ wsX7_setState_r3)) ++ wsX70 ++ wsX60 ++ wsX40 ++ wsX20 ++ (vx_atS RX7 86 "java/lang/IllegalArgumentException" ["java/lang/RuntimeException", "java/lang/Exception"]).filter goodWord)
def wsX7_setAwake_r1 : List Cond := [Cond.classLink RX7 82 "java/lang/IllegalArgumentException", Cond.initialized "java/lang/IllegalArgumentException", Cond.fieldLink RX7 10 "SleepPlanner" "states" "LSleepPlanner$States;", Cond.methodLink RX7 78 yX7_isWithin, Cond.static yX7_isWithin, Cond.initialized RX7, Cond.code yX7_isWithin cX7_isWithin 3 (some .boolean), Cond.methodLink RX7 89 yX7_wakeForCall, Cond.instanceMethod yX7_wakeForCall, Cond.selects RX7 yX7_wakeForCall yX7_wakeForCall, Cond.code yX7_wakeForCall cX7_wakeForCall 1 none, Cond.fieldLink RX7 72 "SleepPlanner" "state" "I", Cond.fieldLink RX7 47 "SleepPlanner" "ledger" "LSleepPlanner$Ledger;", Cond.methodLink RX7 283 yX6_wakingCost, Cond.instanceMethod yX6_wakingCost, Cond.selects RX6 yX6_wakingCost yX6_wakingCost, Cond.initialized RX6, Cond.code yX6_wakingCost cX6_wakingCost 2 (some .int), Cond.methodLink RX6 29 yX6_powerOf, Cond.instanceMethod yX6_powerOf, Cond.selects RX6 yX6_powerOf yX6_powerOf, Cond.code yX6_powerOf cX6_powerOf 2 (some .int), Cond.fieldLink RX6 9 "SleepPlanner$States" "power" "[I", Cond.static yX7_read]
def wsX7_setAwake_r2 : List Cond := [Cond.code yX7_read cX7_read 2 (some .int), Cond.methodLink RX6 33 yX6_latencyOf, Cond.instanceMethod yX6_latencyOf, Cond.selects RX6 yX6_latencyOf yX6_latencyOf, Cond.code yX6_latencyOf cX6_latencyOf 2 (some .int), Cond.fieldLink RX6 18 "SleepPlanner$States" "latency" "[I", Cond.methodLink RX7 262 yX4_spend, Cond.instanceMethod yX4_spend, Cond.selects RX4 yX4_spend yX4_spend, Cond.initialized RX4, Cond.code yX4_spend cX4_spend 3 none, Cond.fieldLink RX4 15 "SleepPlanner$Ledger" "spent" "J", Cond.fieldLink RX4 19 "SleepPlanner$Ledger" "unpaid" "J", Cond.methodLink RX7 289 yX7_endIdleTime, Cond.instanceMethod yX7_endIdleTime, Cond.selects RX7 yX7_endIdleTime yX7_endIdleTime, Cond.code yX7_endIdleTime cX7_endIdleTime 1 none, Cond.fieldLink RX7 40 "SleepPlanner" "idleTimes" "LSleepPlanner$IdleTimes;", Cond.fieldLink RX7 69 "SleepPlanner" "now" "I", Cond.fieldLink RX7 75 "SleepPlanner" "asleepSince" "I", Cond.methodLink RX7 292 yX2_remember, Cond.instanceMethod yX2_remember, Cond.selects RX2 yX2_remember yX2_remember, Cond.initialized RX2]
def wsX7_setAwake_r3 : List Cond := [Cond.code yX2_remember cX2_remember 3 none, Cond.fieldLink RX2 11 "SleepPlanner$IdleTimes" "lengths" "[I", Cond.fieldLink RX2 15 "SleepPlanner$IdleTimes" "count" "I", Cond.methodLink RX2 19 Lib.Math.min.name, Cond.static Lib.Math.min.name, Cond.initialized "java/lang/Math", Cond.code Lib.Math.min.name Lib.Math.min.code 2 (some .int), Cond.methodLink RX7 98 yX6_powerOf, Cond.methodLink RX7 92 yX6_change, Cond.instanceMethod yX6_change, Cond.selects RX6 yX6_change yX6_change, Cond.code yX6_change cX6_change 5 none, Cond.fieldLink RX6 15 "SleepPlanner$States" "cost" "[I", Cond.static yX7_exchange, Cond.code yX7_exchange cX7_exchange 4 (some .int)]
def wsX7_setAwake : List Cond := .code yX7_setAwake cX7_setAwake 3 (some .int) :: ((wsX7_setAwake_r1 ++ (wsX7_setAwake_r2 ++ wsX7_setAwake_r3)) ++ wsX70 ++ wsX60 ++ wsX40 ++ wsX20 ++ (vx_atS RX7 86 "java/lang/IllegalArgumentException" ["java/lang/RuntimeException", "java/lang/Exception"]).filter goodWord)
def wsX7_vote_r1 : List Cond := [Cond.classLink RX7 82 "java/lang/IllegalArgumentException", Cond.initialized "java/lang/IllegalArgumentException", Cond.fieldLink RX7 16 "SleepPlanner" "votes" "[I", Cond.methodLink RX7 78 yX7_isWithin, Cond.static yX7_isWithin, Cond.initialized RX7, Cond.code yX7_isWithin cX7_isWithin 3 (some .boolean), Cond.methodLink RX7 89 yX7_wakeForCall, Cond.instanceMethod yX7_wakeForCall, Cond.selects RX7 yX7_wakeForCall yX7_wakeForCall, Cond.code yX7_wakeForCall cX7_wakeForCall 1 none, Cond.fieldLink RX7 72 "SleepPlanner" "state" "I", Cond.fieldLink RX7 47 "SleepPlanner" "ledger" "LSleepPlanner$Ledger;", Cond.fieldLink RX7 10 "SleepPlanner" "states" "LSleepPlanner$States;", Cond.methodLink RX7 283 yX6_wakingCost, Cond.instanceMethod yX6_wakingCost, Cond.selects RX6 yX6_wakingCost yX6_wakingCost, Cond.initialized RX6, Cond.code yX6_wakingCost cX6_wakingCost 2 (some .int), Cond.methodLink RX6 29 yX6_powerOf, Cond.instanceMethod yX6_powerOf, Cond.selects RX6 yX6_powerOf yX6_powerOf, Cond.code yX6_powerOf cX6_powerOf 2 (some .int), Cond.fieldLink RX6 9 "SleepPlanner$States" "power" "[I"]
def wsX7_vote_r2 : List Cond := [Cond.static yX7_read, Cond.code yX7_read cX7_read 2 (some .int), Cond.methodLink RX6 33 yX6_latencyOf, Cond.instanceMethod yX6_latencyOf, Cond.selects RX6 yX6_latencyOf yX6_latencyOf, Cond.code yX6_latencyOf cX6_latencyOf 2 (some .int), Cond.fieldLink RX6 18 "SleepPlanner$States" "latency" "[I", Cond.methodLink RX7 262 yX4_spend, Cond.instanceMethod yX4_spend, Cond.selects RX4 yX4_spend yX4_spend, Cond.initialized RX4, Cond.code yX4_spend cX4_spend 3 none, Cond.fieldLink RX4 15 "SleepPlanner$Ledger" "spent" "J", Cond.fieldLink RX4 19 "SleepPlanner$Ledger" "unpaid" "J", Cond.methodLink RX7 289 yX7_endIdleTime, Cond.instanceMethod yX7_endIdleTime, Cond.selects RX7 yX7_endIdleTime yX7_endIdleTime, Cond.code yX7_endIdleTime cX7_endIdleTime 1 none, Cond.fieldLink RX7 40 "SleepPlanner" "idleTimes" "LSleepPlanner$IdleTimes;", Cond.fieldLink RX7 69 "SleepPlanner" "now" "I", Cond.fieldLink RX7 75 "SleepPlanner" "asleepSince" "I", Cond.methodLink RX7 292 yX2_remember, Cond.instanceMethod yX2_remember, Cond.selects RX2 yX2_remember yX2_remember]
def wsX7_vote_r3 : List Cond := [Cond.initialized RX2, Cond.code yX2_remember cX2_remember 3 none, Cond.fieldLink RX2 11 "SleepPlanner$IdleTimes" "lengths" "[I", Cond.fieldLink RX2 15 "SleepPlanner$IdleTimes" "count" "I", Cond.methodLink RX2 19 Lib.Math.min.name, Cond.static Lib.Math.min.name, Cond.initialized "java/lang/Math", Cond.code Lib.Math.min.name Lib.Math.min.code 2 (some .int), Cond.methodLink RX7 104 yX7_exchange, Cond.static yX7_exchange, Cond.code yX7_exchange cX7_exchange 4 (some .int)]
def wsX7_vote : List Cond := .code yX7_vote cX7_vote 3 (some .int) :: ((wsX7_vote_r1 ++ (wsX7_vote_r2 ++ wsX7_vote_r3)) ++ wsX70 ++ wsX60 ++ wsX40 ++ wsX20 ++ (vx_atS RX7 86 "java/lang/IllegalArgumentException" ["java/lang/RuntimeException", "java/lang/Exception"]).filter goodWord)
def wsX7_addClock_r1 : List Cond := [Cond.classLink RX7 112 "java/lang/IndexOutOfBoundsException", Cond.initialized "java/lang/IndexOutOfBoundsException", Cond.classLink RX7 82 "java/lang/IllegalArgumentException", Cond.initialized "java/lang/IllegalArgumentException", Cond.classLink RX7 123 "java/lang/IllegalStateException", Cond.initialized "java/lang/IllegalStateException", Cond.fieldLink RX7 23 "SleepPlanner" "clocks" "LSleepPlanner$Clocks;", Cond.methodLink RX7 108 yX1_has, Cond.instanceMethod yX1_has, Cond.selects RX1 yX1_has yX1_has, Cond.initialized RX1, Cond.code yX1_has cX1_has 2 (some .boolean), Cond.fieldLink RX1 28 "SleepPlanner$Clocks" "count" "I", Cond.methodLink RX7 78 yX7_isWithin, Cond.static yX7_isWithin, Cond.initialized RX7, Cond.code yX7_isWithin cX7_isWithin 3 (some .boolean), Cond.methodLink RX7 119 yX1_isFull, Cond.instanceMethod yX1_isFull, Cond.selects RX1 yX1_isFull yX1_isFull, Cond.code yX1_isFull cX1_isFull 1 (some .boolean), Cond.methodLink RX7 89 yX7_wakeForCall, Cond.instanceMethod yX7_wakeForCall, Cond.selects RX7 yX7_wakeForCall yX7_wakeForCall]
def wsX7_addClock_r2 : List Cond := [Cond.code yX7_wakeForCall cX7_wakeForCall 1 none, Cond.fieldLink RX7 72 "SleepPlanner" "state" "I", Cond.fieldLink RX7 47 "SleepPlanner" "ledger" "LSleepPlanner$Ledger;", Cond.fieldLink RX7 10 "SleepPlanner" "states" "LSleepPlanner$States;", Cond.methodLink RX7 283 yX6_wakingCost, Cond.instanceMethod yX6_wakingCost, Cond.selects RX6 yX6_wakingCost yX6_wakingCost, Cond.initialized RX6, Cond.code yX6_wakingCost cX6_wakingCost 2 (some .int), Cond.methodLink RX6 29 yX6_powerOf, Cond.instanceMethod yX6_powerOf, Cond.selects RX6 yX6_powerOf yX6_powerOf, Cond.code yX6_powerOf cX6_powerOf 2 (some .int), Cond.fieldLink RX6 9 "SleepPlanner$States" "power" "[I", Cond.static yX7_read, Cond.code yX7_read cX7_read 2 (some .int), Cond.methodLink RX6 33 yX6_latencyOf, Cond.instanceMethod yX6_latencyOf, Cond.selects RX6 yX6_latencyOf yX6_latencyOf, Cond.code yX6_latencyOf cX6_latencyOf 2 (some .int), Cond.fieldLink RX6 18 "SleepPlanner$States" "latency" "[I", Cond.methodLink RX7 262 yX4_spend, Cond.instanceMethod yX4_spend, Cond.selects RX4 yX4_spend yX4_spend]
def wsX7_addClock_r3 : List Cond := [Cond.initialized RX4, Cond.code yX4_spend cX4_spend 3 none, Cond.fieldLink RX4 15 "SleepPlanner$Ledger" "spent" "J", Cond.fieldLink RX4 19 "SleepPlanner$Ledger" "unpaid" "J", Cond.methodLink RX7 289 yX7_endIdleTime, Cond.instanceMethod yX7_endIdleTime, Cond.selects RX7 yX7_endIdleTime yX7_endIdleTime, Cond.code yX7_endIdleTime cX7_endIdleTime 1 none, Cond.fieldLink RX7 40 "SleepPlanner" "idleTimes" "LSleepPlanner$IdleTimes;", Cond.fieldLink RX7 69 "SleepPlanner" "now" "I", Cond.fieldLink RX7 75 "SleepPlanner" "asleepSince" "I", Cond.methodLink RX7 292 yX2_remember, Cond.instanceMethod yX2_remember, Cond.selects RX2 yX2_remember yX2_remember, Cond.initialized RX2, Cond.code yX2_remember cX2_remember 3 none, Cond.fieldLink RX2 11 "SleepPlanner$IdleTimes" "lengths" "[I", Cond.fieldLink RX2 15 "SleepPlanner$IdleTimes" "count" "I", Cond.methodLink RX2 19 Lib.Math.min.name, Cond.static Lib.Math.min.name, Cond.initialized "java/lang/Math", Cond.code Lib.Math.min.name Lib.Math.min.code 2 (some .int), Cond.methodLink RX7 128 yX1_add, Cond.instanceMethod yX1_add]
def wsX7_addClock_r4 : List Cond := [Cond.selects RX1 yX1_add yX1_add, Cond.code yX1_add cX1_add 4 (some .int), Cond.fieldLink RX1 11 "SleepPlanner$Clocks" "parent" "[I", Cond.fieldLink RX1 15 "SleepPlanner$Clocks" "frequency" "[I", Cond.fieldLink RX1 18 "SleepPlanner$Clocks" "deepest" "[I", Cond.fieldLink RX1 21 "SleepPlanner$Clocks" "uses" "[I", Cond.methodLink RX1 32 yX1_isFull]
def wsX7_addClock : List Cond := .code yX7_addClock cX7_addClock 4 (some .int) :: ((wsX7_addClock_r1 ++ (wsX7_addClock_r2 ++ (wsX7_addClock_r3 ++ wsX7_addClock_r4))) ++ wsX70 ++ wsX10 ++ wsX60 ++ wsX40 ++ wsX20 ++ (vx_atS RX7 116 "java/lang/IndexOutOfBoundsException" ["java/lang/RuntimeException", "java/lang/Exception"]).filter goodWord ++ (vx_atS RX7 86 "java/lang/IllegalArgumentException" ["java/lang/RuntimeException", "java/lang/Exception"]).filter goodWord ++ (vx_atS RX7 127 "java/lang/IllegalStateException" ["java/lang/RuntimeException", "java/lang/Exception"]).filter goodWord)
def wsX7_use_r1 : List Cond := [Cond.classLink RX7 112 "java/lang/IndexOutOfBoundsException", Cond.initialized "java/lang/IndexOutOfBoundsException", Cond.classLink RX7 123 "java/lang/IllegalStateException", Cond.initialized "java/lang/IllegalStateException", Cond.fieldLink RX7 23 "SleepPlanner" "clocks" "LSleepPlanner$Clocks;", Cond.methodLink RX7 108 yX1_has, Cond.instanceMethod yX1_has, Cond.selects RX1 yX1_has yX1_has, Cond.initialized RX1, Cond.code yX1_has cX1_has 2 (some .boolean), Cond.fieldLink RX1 28 "SleepPlanner$Clocks" "count" "I", Cond.methodLink RX7 134 yX1_usesOf, Cond.instanceMethod yX1_usesOf, Cond.selects RX1 yX1_usesOf yX1_usesOf, Cond.code yX1_usesOf cX1_usesOf 2 (some .int), Cond.fieldLink RX1 21 "SleepPlanner$Clocks" "uses" "[I", Cond.static yX7_read, Cond.initialized RX7, Cond.code yX7_read cX7_read 2 (some .int), Cond.methodLink RX7 89 yX7_wakeForCall, Cond.instanceMethod yX7_wakeForCall, Cond.selects RX7 yX7_wakeForCall yX7_wakeForCall, Cond.code yX7_wakeForCall cX7_wakeForCall 1 none, Cond.fieldLink RX7 72 "SleepPlanner" "state" "I"]
def wsX7_use_r2 : List Cond := [Cond.fieldLink RX7 47 "SleepPlanner" "ledger" "LSleepPlanner$Ledger;", Cond.fieldLink RX7 10 "SleepPlanner" "states" "LSleepPlanner$States;", Cond.methodLink RX7 283 yX6_wakingCost, Cond.instanceMethod yX6_wakingCost, Cond.selects RX6 yX6_wakingCost yX6_wakingCost, Cond.initialized RX6, Cond.code yX6_wakingCost cX6_wakingCost 2 (some .int), Cond.methodLink RX6 29 yX6_powerOf, Cond.instanceMethod yX6_powerOf, Cond.selects RX6 yX6_powerOf yX6_powerOf, Cond.code yX6_powerOf cX6_powerOf 2 (some .int), Cond.fieldLink RX6 9 "SleepPlanner$States" "power" "[I", Cond.methodLink RX6 33 yX6_latencyOf, Cond.instanceMethod yX6_latencyOf, Cond.selects RX6 yX6_latencyOf yX6_latencyOf, Cond.code yX6_latencyOf cX6_latencyOf 2 (some .int), Cond.fieldLink RX6 18 "SleepPlanner$States" "latency" "[I", Cond.methodLink RX7 262 yX4_spend, Cond.instanceMethod yX4_spend, Cond.selects RX4 yX4_spend yX4_spend, Cond.initialized RX4, Cond.code yX4_spend cX4_spend 3 none, Cond.fieldLink RX4 15 "SleepPlanner$Ledger" "spent" "J", Cond.fieldLink RX4 19 "SleepPlanner$Ledger" "unpaid" "J"]
def wsX7_use_r3 : List Cond := [Cond.methodLink RX7 289 yX7_endIdleTime, Cond.instanceMethod yX7_endIdleTime, Cond.selects RX7 yX7_endIdleTime yX7_endIdleTime, Cond.code yX7_endIdleTime cX7_endIdleTime 1 none, Cond.fieldLink RX7 40 "SleepPlanner" "idleTimes" "LSleepPlanner$IdleTimes;", Cond.fieldLink RX7 69 "SleepPlanner" "now" "I", Cond.fieldLink RX7 75 "SleepPlanner" "asleepSince" "I", Cond.methodLink RX7 292 yX2_remember, Cond.instanceMethod yX2_remember, Cond.selects RX2 yX2_remember yX2_remember, Cond.initialized RX2, Cond.code yX2_remember cX2_remember 3 none, Cond.fieldLink RX2 11 "SleepPlanner$IdleTimes" "lengths" "[I", Cond.fieldLink RX2 15 "SleepPlanner$IdleTimes" "count" "I", Cond.methodLink RX2 19 Lib.Math.min.name, Cond.static Lib.Math.min.name, Cond.initialized "java/lang/Math", Cond.code Lib.Math.min.name Lib.Math.min.code 2 (some .int), Cond.methodLink RX7 139 yX1_changeUses, Cond.instanceMethod yX1_changeUses, Cond.selects RX1 yX1_changeUses yX1_changeUses, Cond.code yX1_changeUses cX1_changeUses 3 (some .int), Cond.methodLink RX1 40 yX1_usesOf, Cond.static yX7_exchange]
def wsX7_use_r4 : List Cond := [Cond.code yX7_exchange cX7_exchange 4 (some .int)]
def wsX7_use : List Cond := .code yX7_use cX7_use 2 (some .int) :: ((wsX7_use_r1 ++ (wsX7_use_r2 ++ (wsX7_use_r3 ++ wsX7_use_r4))) ++ wsX70 ++ wsX10 ++ wsX60 ++ wsX40 ++ wsX20 ++ (vx_atS RX7 116 "java/lang/IndexOutOfBoundsException" ["java/lang/RuntimeException", "java/lang/Exception"]).filter goodWord ++ (vx_atS RX7 127 "java/lang/IllegalStateException" ["java/lang/RuntimeException", "java/lang/Exception"]).filter goodWord)
def wsX7_release_r1 : List Cond := [Cond.classLink RX7 112 "java/lang/IndexOutOfBoundsException", Cond.initialized "java/lang/IndexOutOfBoundsException", Cond.classLink RX7 123 "java/lang/IllegalStateException", Cond.initialized "java/lang/IllegalStateException", Cond.fieldLink RX7 23 "SleepPlanner" "clocks" "LSleepPlanner$Clocks;", Cond.methodLink RX7 108 yX1_has, Cond.instanceMethod yX1_has, Cond.selects RX1 yX1_has yX1_has, Cond.initialized RX1, Cond.code yX1_has cX1_has 2 (some .boolean), Cond.fieldLink RX1 28 "SleepPlanner$Clocks" "count" "I", Cond.methodLink RX7 134 yX1_usesOf, Cond.instanceMethod yX1_usesOf, Cond.selects RX1 yX1_usesOf yX1_usesOf, Cond.code yX1_usesOf cX1_usesOf 2 (some .int), Cond.fieldLink RX1 21 "SleepPlanner$Clocks" "uses" "[I", Cond.static yX7_read, Cond.initialized RX7, Cond.code yX7_read cX7_read 2 (some .int), Cond.methodLink RX7 89 yX7_wakeForCall, Cond.instanceMethod yX7_wakeForCall, Cond.selects RX7 yX7_wakeForCall yX7_wakeForCall, Cond.code yX7_wakeForCall cX7_wakeForCall 1 none, Cond.fieldLink RX7 72 "SleepPlanner" "state" "I"]
def wsX7_release_r2 : List Cond := [Cond.fieldLink RX7 47 "SleepPlanner" "ledger" "LSleepPlanner$Ledger;", Cond.fieldLink RX7 10 "SleepPlanner" "states" "LSleepPlanner$States;", Cond.methodLink RX7 283 yX6_wakingCost, Cond.instanceMethod yX6_wakingCost, Cond.selects RX6 yX6_wakingCost yX6_wakingCost, Cond.initialized RX6, Cond.code yX6_wakingCost cX6_wakingCost 2 (some .int), Cond.methodLink RX6 29 yX6_powerOf, Cond.instanceMethod yX6_powerOf, Cond.selects RX6 yX6_powerOf yX6_powerOf, Cond.code yX6_powerOf cX6_powerOf 2 (some .int), Cond.fieldLink RX6 9 "SleepPlanner$States" "power" "[I", Cond.methodLink RX6 33 yX6_latencyOf, Cond.instanceMethod yX6_latencyOf, Cond.selects RX6 yX6_latencyOf yX6_latencyOf, Cond.code yX6_latencyOf cX6_latencyOf 2 (some .int), Cond.fieldLink RX6 18 "SleepPlanner$States" "latency" "[I", Cond.methodLink RX7 262 yX4_spend, Cond.instanceMethod yX4_spend, Cond.selects RX4 yX4_spend yX4_spend, Cond.initialized RX4, Cond.code yX4_spend cX4_spend 3 none, Cond.fieldLink RX4 15 "SleepPlanner$Ledger" "spent" "J", Cond.fieldLink RX4 19 "SleepPlanner$Ledger" "unpaid" "J"]
def wsX7_release_r3 : List Cond := [Cond.methodLink RX7 289 yX7_endIdleTime, Cond.instanceMethod yX7_endIdleTime, Cond.selects RX7 yX7_endIdleTime yX7_endIdleTime, Cond.code yX7_endIdleTime cX7_endIdleTime 1 none, Cond.fieldLink RX7 40 "SleepPlanner" "idleTimes" "LSleepPlanner$IdleTimes;", Cond.fieldLink RX7 69 "SleepPlanner" "now" "I", Cond.fieldLink RX7 75 "SleepPlanner" "asleepSince" "I", Cond.methodLink RX7 292 yX2_remember, Cond.instanceMethod yX2_remember, Cond.selects RX2 yX2_remember yX2_remember, Cond.initialized RX2, Cond.code yX2_remember cX2_remember 3 none, Cond.fieldLink RX2 11 "SleepPlanner$IdleTimes" "lengths" "[I", Cond.fieldLink RX2 15 "SleepPlanner$IdleTimes" "count" "I", Cond.methodLink RX2 19 Lib.Math.min.name, Cond.static Lib.Math.min.name, Cond.initialized "java/lang/Math", Cond.code Lib.Math.min.name Lib.Math.min.code 2 (some .int), Cond.methodLink RX7 139 yX1_changeUses, Cond.instanceMethod yX1_changeUses, Cond.selects RX1 yX1_changeUses yX1_changeUses, Cond.code yX1_changeUses cX1_changeUses 3 (some .int), Cond.methodLink RX1 40 yX1_usesOf, Cond.static yX7_exchange]
def wsX7_release_r4 : List Cond := [Cond.code yX7_exchange cX7_exchange 4 (some .int)]
def wsX7_release : List Cond := .code yX7_release cX7_release 2 (some .int) :: ((wsX7_release_r1 ++ (wsX7_release_r2 ++ (wsX7_release_r3 ++ wsX7_release_r4))) ++ wsX70 ++ wsX10 ++ wsX60 ++ wsX40 ++ wsX20 ++ (vx_atS RX7 116 "java/lang/IndexOutOfBoundsException" ["java/lang/RuntimeException", "java/lang/Exception"]).filter goodWord ++ (vx_atS RX7 127 "java/lang/IllegalStateException" ["java/lang/RuntimeException", "java/lang/Exception"]).filter goodWord)
def wsX7_runs : List Cond := .code yX7_runs cX7_runs 2 (some .boolean) :: ([.classLink RX7 112 "java/lang/IndexOutOfBoundsException", .initialized "java/lang/IndexOutOfBoundsException", .fieldLink RX7 23 "SleepPlanner" "clocks" "LSleepPlanner$Clocks;", .methodLink RX7 108 yX1_has, .instanceMethod yX1_has, .selects RX1 yX1_has yX1_has, .initialized RX1, .code yX1_has cX1_has 2 (some .boolean), .fieldLink RX1 28 "SleepPlanner$Clocks" "count" "I", .methodLink RX7 145 yX1_isRunning, .instanceMethod yX1_isRunning, .selects RX1 yX1_isRunning yX1_isRunning, .code yX1_isRunning cX1_isRunning 2 (some .boolean), .fieldLink RX1 24 "SleepPlanner$Clocks" "running" "[Z", .methodLink RX1 48 yX1_markRunning, .instanceMethod yX1_markRunning, .selects RX1 yX1_markRunning yX1_markRunning, .code yX1_markRunning cX1_markRunning 2 none, .fieldLink RX1 21 "SleepPlanner$Clocks" "uses" "[I", .fieldLink RX1 11 "SleepPlanner$Clocks" "parent" "[I", .methodLink RX1 51 yX1_has] ++ wsX70 ++ wsX10 ++ (vx_atS RX7 116 "java/lang/IndexOutOfBoundsException" ["java/lang/RuntimeException", "java/lang/Exception"]).filter goodWord)
def wsX7_frequency : List Cond := .code yX7_frequency cX7_frequency 2 (some .int) :: ([.classLink RX7 112 "java/lang/IndexOutOfBoundsException", .initialized "java/lang/IndexOutOfBoundsException", .fieldLink RX7 23 "SleepPlanner" "clocks" "LSleepPlanner$Clocks;", .methodLink RX7 108 yX1_has, .instanceMethod yX1_has, .selects RX1 yX1_has yX1_has, .initialized RX1, .code yX1_has cX1_has 2 (some .boolean), .fieldLink RX1 28 "SleepPlanner$Clocks" "count" "I", .methodLink RX7 148 yX1_frequencyOf, .instanceMethod yX1_frequencyOf, .selects RX1 yX1_frequencyOf yX1_frequencyOf, .code yX1_frequencyOf cX1_frequencyOf 2 (some .int), .fieldLink RX1 15 "SleepPlanner$Clocks" "frequency" "[I", .static yX7_read, .initialized RX7, .code yX7_read cX7_read 2 (some .int)] ++ wsX70 ++ wsX10 ++ (vx_atS RX7 116 "java/lang/IndexOutOfBoundsException" ["java/lang/RuntimeException", "java/lang/Exception"]).filter goodWord)
def wsX7_depth_r1 : List Cond := [Cond.fieldLink RX7 23 "SleepPlanner" "clocks" "LSleepPlanner$Clocks;", Cond.fieldLink RX7 16 "SleepPlanner" "votes" "[I", Cond.methodLink RX7 155 Lib.Math.min.name, Cond.static Lib.Math.min.name, Cond.initialized "java/lang/Math", Cond.code Lib.Math.min.name Lib.Math.min.code 2 (some .int), Cond.methodLink RX7 151 yX1_leastDeepest, Cond.instanceMethod yX1_leastDeepest, Cond.selects RX1 yX1_leastDeepest yX1_leastDeepest, Cond.initialized RX1, Cond.code yX1_leastDeepest cX1_leastDeepest 3 (some .int), Cond.fieldLink RX1 28 "SleepPlanner$Clocks" "count" "I", Cond.fieldLink RX1 24 "SleepPlanner$Clocks" "running" "[Z", Cond.fieldLink RX1 18 "SleepPlanner$Clocks" "deepest" "[I", Cond.methodLink RX1 55 Lib.Math.min.name, Cond.methodLink RX1 48 yX1_markRunning, Cond.instanceMethod yX1_markRunning, Cond.selects RX1 yX1_markRunning yX1_markRunning, Cond.code yX1_markRunning cX1_markRunning 2 none, Cond.fieldLink RX1 21 "SleepPlanner$Clocks" "uses" "[I", Cond.fieldLink RX1 11 "SleepPlanner$Clocks" "parent" "[I", Cond.methodLink RX1 51 yX1_has, Cond.instanceMethod yX1_has, Cond.selects RX1 yX1_has yX1_has]
def wsX7_depth_r2 : List Cond := [Cond.code yX1_has cX1_has 2 (some .boolean)]
def wsX7_depth : List Cond := .code yX7_depth cX7_depth 3 (some .int) :: ((wsX7_depth_r1 ++ wsX7_depth_r2) ++ wsX70 ++ wsX10)
def wsX7_breakEven_r1 : List Cond := [Cond.classLink RX7 82 "java/lang/IllegalArgumentException", Cond.initialized "java/lang/IllegalArgumentException", Cond.fieldLink RX7 10 "SleepPlanner" "states" "LSleepPlanner$States;", Cond.methodLink RX7 78 yX7_isWithin, Cond.static yX7_isWithin, Cond.initialized RX7, Cond.code yX7_isWithin cX7_isWithin 3 (some .boolean), Cond.methodLink RX7 162 yX6_leastWorthwhile, Cond.instanceMethod yX6_leastWorthwhile, Cond.selects RX6 yX6_leastWorthwhile yX6_leastWorthwhile, Cond.initialized RX6, Cond.code yX6_leastWorthwhile cX6_leastWorthwhile 4 (some .int), Cond.methodLink RX6 36 yX6_costOf, Cond.instanceMethod yX6_costOf, Cond.selects RX6 yX6_costOf yX6_costOf, Cond.code yX6_costOf cX6_costOf 2 (some .int), Cond.fieldLink RX6 15 "SleepPlanner$States" "cost" "[I", Cond.static yX7_read, Cond.code yX7_read cX7_read 2 (some .int), Cond.methodLink RX6 33 yX6_latencyOf, Cond.instanceMethod yX6_latencyOf, Cond.selects RX6 yX6_latencyOf yX6_latencyOf, Cond.code yX6_latencyOf cX6_latencyOf 2 (some .int), Cond.fieldLink RX6 18 "SleepPlanner$States" "latency" "[I"]
def wsX7_breakEven_r2 : List Cond := [Cond.methodLink RX6 29 yX6_powerOf, Cond.instanceMethod yX6_powerOf, Cond.selects RX6 yX6_powerOf yX6_powerOf, Cond.code yX6_powerOf cX6_powerOf 2 (some .int), Cond.fieldLink RX6 9 "SleepPlanner$States" "power" "[I"]
def wsX7_breakEven : List Cond := .code yX7_breakEven cX7_breakEven 2 (some .int) :: ((wsX7_breakEven_r1 ++ wsX7_breakEven_r2) ++ wsX70 ++ wsX60 ++ (vx_atS RX7 86 "java/lang/IllegalArgumentException" ["java/lang/RuntimeException", "java/lang/Exception"]).filter goodWord)
def wsX7_schedule_r1 : List Cond := [Cond.classLink RX7 82 "java/lang/IllegalArgumentException", Cond.initialized "java/lang/IllegalArgumentException", Cond.classLink RX7 123 "java/lang/IllegalStateException", Cond.initialized "java/lang/IllegalStateException", Cond.fieldLink RX7 69 "SleepPlanner" "now" "I", Cond.fieldLink RX7 30 "SleepPlanner" "timers" "LSleepPlanner$Jobs;", Cond.methodLink RX7 78 yX7_isWithin, Cond.static yX7_isWithin, Cond.initialized RX7, Cond.code yX7_isWithin cX7_isWithin 3 (some .boolean), Cond.methodLink RX7 167 yX3_isFull, Cond.instanceMethod yX3_isFull, Cond.selects RX3 yX3_isFull yX3_isFull, Cond.initialized RX3, Cond.code yX3_isFull cX3_isFull 1 (some .boolean), Cond.fieldLink RX3 21 "SleepPlanner$Jobs" "count" "I", Cond.methodLink RX7 89 yX7_wakeForCall, Cond.instanceMethod yX7_wakeForCall, Cond.selects RX7 yX7_wakeForCall yX7_wakeForCall, Cond.code yX7_wakeForCall cX7_wakeForCall 1 none, Cond.fieldLink RX7 72 "SleepPlanner" "state" "I", Cond.fieldLink RX7 47 "SleepPlanner" "ledger" "LSleepPlanner$Ledger;", Cond.fieldLink RX7 10 "SleepPlanner" "states" "LSleepPlanner$States;", Cond.methodLink RX7 283 yX6_wakingCost]
def wsX7_schedule_r2 : List Cond := [Cond.instanceMethod yX6_wakingCost, Cond.selects RX6 yX6_wakingCost yX6_wakingCost, Cond.initialized RX6, Cond.code yX6_wakingCost cX6_wakingCost 2 (some .int), Cond.methodLink RX6 29 yX6_powerOf, Cond.instanceMethod yX6_powerOf, Cond.selects RX6 yX6_powerOf yX6_powerOf, Cond.code yX6_powerOf cX6_powerOf 2 (some .int), Cond.fieldLink RX6 9 "SleepPlanner$States" "power" "[I", Cond.static yX7_read, Cond.code yX7_read cX7_read 2 (some .int), Cond.methodLink RX6 33 yX6_latencyOf, Cond.instanceMethod yX6_latencyOf, Cond.selects RX6 yX6_latencyOf yX6_latencyOf, Cond.code yX6_latencyOf cX6_latencyOf 2 (some .int), Cond.fieldLink RX6 18 "SleepPlanner$States" "latency" "[I", Cond.methodLink RX7 262 yX4_spend, Cond.instanceMethod yX4_spend, Cond.selects RX4 yX4_spend yX4_spend, Cond.initialized RX4, Cond.code yX4_spend cX4_spend 3 none, Cond.fieldLink RX4 15 "SleepPlanner$Ledger" "spent" "J", Cond.fieldLink RX4 19 "SleepPlanner$Ledger" "unpaid" "J", Cond.methodLink RX7 289 yX7_endIdleTime]
def wsX7_schedule_r3 : List Cond := [Cond.instanceMethod yX7_endIdleTime, Cond.selects RX7 yX7_endIdleTime yX7_endIdleTime, Cond.code yX7_endIdleTime cX7_endIdleTime 1 none, Cond.fieldLink RX7 40 "SleepPlanner" "idleTimes" "LSleepPlanner$IdleTimes;", Cond.fieldLink RX7 75 "SleepPlanner" "asleepSince" "I", Cond.methodLink RX7 292 yX2_remember, Cond.instanceMethod yX2_remember, Cond.selects RX2 yX2_remember yX2_remember, Cond.initialized RX2, Cond.code yX2_remember cX2_remember 3 none, Cond.fieldLink RX2 11 "SleepPlanner$IdleTimes" "lengths" "[I", Cond.fieldLink RX2 15 "SleepPlanner$IdleTimes" "count" "I", Cond.methodLink RX2 19 Lib.Math.min.name, Cond.static Lib.Math.min.name, Cond.initialized "java/lang/Math", Cond.code Lib.Math.min.name Lib.Math.min.code 2 (some .int), Cond.methodLink RX7 170 yX3_add, Cond.instanceMethod yX3_add, Cond.selects RX3 yX3_add yX3_add, Cond.code yX3_add cX3_add 4 (some .int), Cond.fieldLink RX3 11 "SleepPlanner$Jobs" "due" "[I", Cond.fieldLink RX3 15 "SleepPlanner$Jobs" "latest" "[I", Cond.fieldLink RX3 18 "SleepPlanner$Jobs" "work" "[I", Cond.methodLink RX3 25 yX3_isFull]
def wsX7_schedule : List Cond := .code yX7_schedule cX7_schedule 4 (some .int) :: ((wsX7_schedule_r1 ++ (wsX7_schedule_r2 ++ wsX7_schedule_r3)) ++ wsX70 ++ wsX30 ++ wsX60 ++ wsX40 ++ wsX20 ++ (vx_atS RX7 86 "java/lang/IllegalArgumentException" ["java/lang/RuntimeException", "java/lang/Exception"]).filter goodWord ++ (vx_atS RX7 127 "java/lang/IllegalStateException" ["java/lang/RuntimeException", "java/lang/Exception"]).filter goodWord)
def wsX7_addEvent : List Cond := .code yX7_addEvent cX7_addEvent 3 (some .int) :: ([.classLink RX7 82 "java/lang/IllegalArgumentException", .initialized "java/lang/IllegalArgumentException", .classLink RX7 123 "java/lang/IllegalStateException", .initialized "java/lang/IllegalStateException", .fieldLink RX7 69 "SleepPlanner" "now" "I", .fieldLink RX7 34 "SleepPlanner" "events" "LSleepPlanner$Jobs;", .methodLink RX7 78 yX7_isWithin, .static yX7_isWithin, .initialized RX7, .code yX7_isWithin cX7_isWithin 3 (some .boolean), .methodLink RX7 167 yX3_isFull, .instanceMethod yX3_isFull, .selects RX3 yX3_isFull yX3_isFull, .initialized RX3, .code yX3_isFull cX3_isFull 1 (some .boolean), .fieldLink RX3 21 "SleepPlanner$Jobs" "count" "I", .methodLink RX7 170 yX3_add, .instanceMethod yX3_add, .selects RX3 yX3_add yX3_add, .code yX3_add cX3_add 4 (some .int), .fieldLink RX3 11 "SleepPlanner$Jobs" "due" "[I", .fieldLink RX3 15 "SleepPlanner$Jobs" "latest" "[I", .fieldLink RX3 18 "SleepPlanner$Jobs" "work" "[I", .methodLink RX3 25 yX3_isFull] ++ wsX70 ++ wsX30 ++ (vx_atS RX7 86 "java/lang/IllegalArgumentException" ["java/lang/RuntimeException", "java/lang/Exception"]).filter goodWord ++ (vx_atS RX7 127 "java/lang/IllegalStateException" ["java/lang/RuntimeException", "java/lang/Exception"]).filter goodWord)
def wsX7_setRule_r1 : List Cond := [Cond.classLink RX7 82 "java/lang/IllegalArgumentException", Cond.initialized "java/lang/IllegalArgumentException", Cond.fieldLink RX7 65 "SleepPlanner" "rule" "I", Cond.methodLink RX7 78 yX7_isWithin, Cond.static yX7_isWithin, Cond.initialized RX7, Cond.code yX7_isWithin cX7_isWithin 3 (some .boolean), Cond.methodLink RX7 89 yX7_wakeForCall, Cond.instanceMethod yX7_wakeForCall, Cond.selects RX7 yX7_wakeForCall yX7_wakeForCall, Cond.code yX7_wakeForCall cX7_wakeForCall 1 none, Cond.fieldLink RX7 72 "SleepPlanner" "state" "I", Cond.fieldLink RX7 47 "SleepPlanner" "ledger" "LSleepPlanner$Ledger;", Cond.fieldLink RX7 10 "SleepPlanner" "states" "LSleepPlanner$States;", Cond.methodLink RX7 283 yX6_wakingCost, Cond.instanceMethod yX6_wakingCost, Cond.selects RX6 yX6_wakingCost yX6_wakingCost, Cond.initialized RX6, Cond.code yX6_wakingCost cX6_wakingCost 2 (some .int), Cond.methodLink RX6 29 yX6_powerOf, Cond.instanceMethod yX6_powerOf, Cond.selects RX6 yX6_powerOf yX6_powerOf, Cond.code yX6_powerOf cX6_powerOf 2 (some .int), Cond.fieldLink RX6 9 "SleepPlanner$States" "power" "[I"]
def wsX7_setRule_r2 : List Cond := [Cond.static yX7_read, Cond.code yX7_read cX7_read 2 (some .int), Cond.methodLink RX6 33 yX6_latencyOf, Cond.instanceMethod yX6_latencyOf, Cond.selects RX6 yX6_latencyOf yX6_latencyOf, Cond.code yX6_latencyOf cX6_latencyOf 2 (some .int), Cond.fieldLink RX6 18 "SleepPlanner$States" "latency" "[I", Cond.methodLink RX7 262 yX4_spend, Cond.instanceMethod yX4_spend, Cond.selects RX4 yX4_spend yX4_spend, Cond.initialized RX4, Cond.code yX4_spend cX4_spend 3 none, Cond.fieldLink RX4 15 "SleepPlanner$Ledger" "spent" "J", Cond.fieldLink RX4 19 "SleepPlanner$Ledger" "unpaid" "J", Cond.methodLink RX7 289 yX7_endIdleTime, Cond.instanceMethod yX7_endIdleTime, Cond.selects RX7 yX7_endIdleTime yX7_endIdleTime, Cond.code yX7_endIdleTime cX7_endIdleTime 1 none, Cond.fieldLink RX7 40 "SleepPlanner" "idleTimes" "LSleepPlanner$IdleTimes;", Cond.fieldLink RX7 69 "SleepPlanner" "now" "I", Cond.fieldLink RX7 75 "SleepPlanner" "asleepSince" "I", Cond.methodLink RX7 292 yX2_remember, Cond.instanceMethod yX2_remember, Cond.selects RX2 yX2_remember yX2_remember]
def wsX7_setRule_r3 : List Cond := [Cond.initialized RX2, Cond.code yX2_remember cX2_remember 3 none, Cond.fieldLink RX2 11 "SleepPlanner$IdleTimes" "lengths" "[I", Cond.fieldLink RX2 15 "SleepPlanner$IdleTimes" "count" "I", Cond.methodLink RX2 19 Lib.Math.min.name, Cond.static Lib.Math.min.name, Cond.initialized "java/lang/Math", Cond.code Lib.Math.min.name Lib.Math.min.code 2 (some .int)]
def wsX7_setRule : List Cond := .code yX7_setRule cX7_setRule 3 (some .int) :: ((wsX7_setRule_r1 ++ (wsX7_setRule_r2 ++ wsX7_setRule_r3)) ++ wsX70 ++ wsX60 ++ wsX40 ++ wsX20 ++ (vx_atS RX7 86 "java/lang/IllegalArgumentException" ["java/lang/RuntimeException", "java/lang/Exception"]).filter goodWord)
def wsX7_timers : List Cond := .code yX7_timers cX7_timers 1 (some .int) :: ([.fieldLink RX7 30 "SleepPlanner" "timers" "LSleepPlanner$Jobs;"] ++ wsX70 ++ wsX30)
def wsX7_nextWakeup : List Cond := .code yX7_nextWakeup cX7_nextWakeup 1 (some .int) :: ([.fieldLink RX7 30 "SleepPlanner" "timers" "LSleepPlanner$Jobs;", .constant RX7 180 (1000000000), .methodLink RX7 181 yX3_leastLatest, .instanceMethod yX3_leastLatest, .selects RX3 yX3_leastLatest yX3_leastLatest, .initialized RX3, .code yX3_leastLatest cX3_leastLatest 6 (some .int), .fieldLink RX3 21 "SleepPlanner$Jobs" "count" "I", .fieldLink RX3 11 "SleepPlanner$Jobs" "due" "[I", .fieldLink RX3 15 "SleepPlanner$Jobs" "latest" "[I"] ++ wsX70 ++ wsX30)
def wsX7_ticksToWakeup : List Cond := .code yX7_ticksToWakeup cX7_ticksToWakeup 2 (some .int) :: ([.constant RX7 180 (1000000000), .fieldLink RX7 69 "SleepPlanner" "now" "I", .methodLink RX7 311 yX7_nextWakeup, .instanceMethod yX7_nextWakeup, .selects RX7 yX7_nextWakeup yX7_nextWakeup, .initialized RX7, .code yX7_nextWakeup cX7_nextWakeup 1 (some .int), .fieldLink RX7 30 "SleepPlanner" "timers" "LSleepPlanner$Jobs;", .methodLink RX7 181 yX3_leastLatest, .instanceMethod yX3_leastLatest, .selects RX3 yX3_leastLatest yX3_leastLatest, .initialized RX3, .code yX3_leastLatest cX3_leastLatest 6 (some .int), .fieldLink RX3 21 "SleepPlanner$Jobs" "count" "I", .fieldLink RX3 11 "SleepPlanner$Jobs" "due" "[I", .fieldLink RX3 15 "SleepPlanner$Jobs" "latest" "[I"] ++ wsX70 ++ wsX30)
def wsX7_wakeIfCalledFor_r1 : List Cond := [Cond.fieldLink RX7 34 "SleepPlanner" "events" "LSleepPlanner$Jobs;", Cond.fieldLink RX7 69 "SleepPlanner" "now" "I", Cond.fieldLink RX7 47 "SleepPlanner" "ledger" "LSleepPlanner$Ledger;", Cond.fieldLink RX7 10 "SleepPlanner" "states" "LSleepPlanner$States;", Cond.fieldLink RX7 72 "SleepPlanner" "state" "I", Cond.methodLink RX7 277 yX7_ticksToWakeup, Cond.instanceMethod yX7_ticksToWakeup, Cond.selects RX7 yX7_ticksToWakeup yX7_ticksToWakeup, Cond.initialized RX7, Cond.code yX7_ticksToWakeup cX7_ticksToWakeup 2 (some .int), Cond.constant RX7 180 (1000000000), Cond.methodLink RX7 311 yX7_nextWakeup, Cond.instanceMethod yX7_nextWakeup, Cond.selects RX7 yX7_nextWakeup yX7_nextWakeup, Cond.code yX7_nextWakeup cX7_nextWakeup 1 (some .int), Cond.fieldLink RX7 30 "SleepPlanner" "timers" "LSleepPlanner$Jobs;", Cond.methodLink RX7 181 yX3_leastLatest, Cond.instanceMethod yX3_leastLatest, Cond.selects RX3 yX3_leastLatest yX3_leastLatest, Cond.initialized RX3, Cond.code yX3_leastLatest cX3_leastLatest 6 (some .int), Cond.fieldLink RX3 21 "SleepPlanner$Jobs" "count" "I", Cond.fieldLink RX3 11 "SleepPlanner$Jobs" "due" "[I", Cond.fieldLink RX3 15 "SleepPlanner$Jobs" "latest" "[I"]
def wsX7_wakeIfCalledFor_r2 : List Cond := [Cond.methodLink RX7 280 yX3_isAnyDue, Cond.instanceMethod yX3_isAnyDue, Cond.selects RX3 yX3_isAnyDue yX3_isAnyDue, Cond.code yX3_isAnyDue cX3_isAnyDue 3 (some .boolean), Cond.methodLink RX7 283 yX6_wakingCost, Cond.instanceMethod yX6_wakingCost, Cond.selects RX6 yX6_wakingCost yX6_wakingCost, Cond.initialized RX6, Cond.code yX6_wakingCost cX6_wakingCost 2 (some .int), Cond.methodLink RX6 29 yX6_powerOf, Cond.instanceMethod yX6_powerOf, Cond.selects RX6 yX6_powerOf yX6_powerOf, Cond.code yX6_powerOf cX6_powerOf 2 (some .int), Cond.fieldLink RX6 9 "SleepPlanner$States" "power" "[I", Cond.static yX7_read, Cond.code yX7_read cX7_read 2 (some .int), Cond.methodLink RX6 33 yX6_latencyOf, Cond.instanceMethod yX6_latencyOf, Cond.selects RX6 yX6_latencyOf yX6_latencyOf, Cond.code yX6_latencyOf cX6_latencyOf 2 (some .int), Cond.fieldLink RX6 18 "SleepPlanner$States" "latency" "[I", Cond.methodLink RX7 262 yX4_spend, Cond.instanceMethod yX4_spend, Cond.selects RX4 yX4_spend yX4_spend]
def wsX7_wakeIfCalledFor_r3 : List Cond := [Cond.initialized RX4, Cond.code yX4_spend cX4_spend 3 none, Cond.fieldLink RX4 15 "SleepPlanner$Ledger" "spent" "J", Cond.fieldLink RX4 19 "SleepPlanner$Ledger" "unpaid" "J", Cond.methodLink RX7 286 yX6_latencyOf, Cond.methodLink RX7 289 yX7_endIdleTime, Cond.instanceMethod yX7_endIdleTime, Cond.selects RX7 yX7_endIdleTime yX7_endIdleTime, Cond.code yX7_endIdleTime cX7_endIdleTime 1 none, Cond.fieldLink RX7 40 "SleepPlanner" "idleTimes" "LSleepPlanner$IdleTimes;", Cond.fieldLink RX7 75 "SleepPlanner" "asleepSince" "I", Cond.methodLink RX7 292 yX2_remember, Cond.instanceMethod yX2_remember, Cond.selects RX2 yX2_remember yX2_remember, Cond.initialized RX2, Cond.code yX2_remember cX2_remember 3 none, Cond.fieldLink RX2 11 "SleepPlanner$IdleTimes" "lengths" "[I", Cond.fieldLink RX2 15 "SleepPlanner$IdleTimes" "count" "I", Cond.methodLink RX2 19 Lib.Math.min.name, Cond.static Lib.Math.min.name, Cond.initialized "java/lang/Math", Cond.code Lib.Math.min.name Lib.Math.min.code 2 (some .int)]
def wsX7_wakeIfCalledFor : List Cond := .code yX7_wakeIfCalledFor cX7_wakeIfCalledFor 2 none :: ((wsX7_wakeIfCalledFor_r1 ++ (wsX7_wakeIfCalledFor_r2 ++ wsX7_wakeIfCalledFor_r3)) ++ wsX70 ++ wsX40 ++ wsX30 ++ wsX60 ++ wsX20)
def wsX7_serveWhatIsDue_r1 : List Cond := [Cond.fieldLink RX7 34 "SleepPlanner" "events" "LSleepPlanner$Jobs;", Cond.fieldLink RX7 69 "SleepPlanner" "now" "I", Cond.fieldLink RX7 30 "SleepPlanner" "timers" "LSleepPlanner$Jobs;", Cond.fieldLink RX7 47 "SleepPlanner" "ledger" "LSleepPlanner$Ledger;", Cond.fieldLink RX7 10 "SleepPlanner" "states" "LSleepPlanner$States;", Cond.methodLink RX7 295 yX3_takeDue, Cond.instanceMethod yX3_takeDue, Cond.selects RX3 yX3_takeDue yX3_takeDue, Cond.initialized RX3, Cond.code yX3_takeDue cX3_takeDue 5 (some .int), Cond.fieldLink RX3 21 "SleepPlanner$Jobs" "count" "I", Cond.fieldLink RX3 11 "SleepPlanner$Jobs" "due" "[I", Cond.fieldLink RX3 18 "SleepPlanner$Jobs" "work" "[I", Cond.fieldLink RX3 15 "SleepPlanner$Jobs" "latest" "[I", Cond.methodLink RX7 98 yX6_powerOf, Cond.instanceMethod yX6_powerOf, Cond.selects RX6 yX6_powerOf yX6_powerOf, Cond.initialized RX6, Cond.code yX6_powerOf cX6_powerOf 2 (some .int), Cond.fieldLink RX6 9 "SleepPlanner$States" "power" "[I", Cond.static yX7_read, Cond.initialized RX7, Cond.code yX7_read cX7_read 2 (some .int), Cond.methodLink RX7 262 yX4_spend]
def wsX7_serveWhatIsDue_r2 : List Cond := [Cond.instanceMethod yX4_spend, Cond.selects RX4 yX4_spend yX4_spend, Cond.initialized RX4, Cond.code yX4_spend cX4_spend 3 none, Cond.fieldLink RX4 15 "SleepPlanner$Ledger" "spent" "J", Cond.fieldLink RX4 19 "SleepPlanner$Ledger" "unpaid" "J"]
def wsX7_serveWhatIsDue : List Cond := .code yX7_serveWhatIsDue cX7_serveWhatIsDue 2 none :: ((wsX7_serveWhatIsDue_r1 ++ wsX7_serveWhatIsDue_r2) ++ wsX70 ++ wsX40 ++ wsX30 ++ wsX60)
def wsX7_chooseState_r1 : List Cond := [Cond.fieldLink RX7 65 "SleepPlanner" "rule" "I", Cond.fieldLink RX7 10 "SleepPlanner" "states" "LSleepPlanner$States;", Cond.fieldLink RX7 40 "SleepPlanner" "idleTimes" "LSleepPlanner$IdleTimes;", Cond.methodLink RX7 155 Lib.Math.min.name, Cond.static Lib.Math.min.name, Cond.initialized "java/lang/Math", Cond.code Lib.Math.min.name Lib.Math.min.code 2 (some .int), Cond.methodLink RX7 277 yX7_ticksToWakeup, Cond.instanceMethod yX7_ticksToWakeup, Cond.selects RX7 yX7_ticksToWakeup yX7_ticksToWakeup, Cond.initialized RX7, Cond.code yX7_ticksToWakeup cX7_ticksToWakeup 2 (some .int), Cond.constant RX7 180 (1000000000), Cond.fieldLink RX7 69 "SleepPlanner" "now" "I", Cond.methodLink RX7 311 yX7_nextWakeup, Cond.instanceMethod yX7_nextWakeup, Cond.selects RX7 yX7_nextWakeup yX7_nextWakeup, Cond.code yX7_nextWakeup cX7_nextWakeup 1 (some .int), Cond.fieldLink RX7 30 "SleepPlanner" "timers" "LSleepPlanner$Jobs;", Cond.methodLink RX7 181 yX3_leastLatest, Cond.instanceMethod yX3_leastLatest, Cond.selects RX3 yX3_leastLatest yX3_leastLatest, Cond.initialized RX3, Cond.code yX3_leastLatest cX3_leastLatest 6 (some .int)]
def wsX7_chooseState_r2 : List Cond := [Cond.fieldLink RX3 21 "SleepPlanner$Jobs" "count" "I", Cond.fieldLink RX3 11 "SleepPlanner$Jobs" "due" "[I", Cond.fieldLink RX3 15 "SleepPlanner$Jobs" "latest" "[I", Cond.methodLink RX7 233 yX7_depth, Cond.instanceMethod yX7_depth, Cond.selects RX7 yX7_depth yX7_depth, Cond.code yX7_depth cX7_depth 3 (some .int), Cond.fieldLink RX7 23 "SleepPlanner" "clocks" "LSleepPlanner$Clocks;", Cond.fieldLink RX7 16 "SleepPlanner" "votes" "[I", Cond.methodLink RX7 151 yX1_leastDeepest, Cond.instanceMethod yX1_leastDeepest, Cond.selects RX1 yX1_leastDeepest yX1_leastDeepest, Cond.initialized RX1, Cond.code yX1_leastDeepest cX1_leastDeepest 3 (some .int), Cond.fieldLink RX1 28 "SleepPlanner$Clocks" "count" "I", Cond.fieldLink RX1 24 "SleepPlanner$Clocks" "running" "[Z", Cond.fieldLink RX1 18 "SleepPlanner$Clocks" "deepest" "[I", Cond.methodLink RX1 55 Lib.Math.min.name, Cond.methodLink RX1 48 yX1_markRunning, Cond.instanceMethod yX1_markRunning, Cond.selects RX1 yX1_markRunning yX1_markRunning, Cond.code yX1_markRunning cX1_markRunning 2 none, Cond.fieldLink RX1 21 "SleepPlanner$Clocks" "uses" "[I", Cond.fieldLink RX1 11 "SleepPlanner$Clocks" "parent" "[I"]
def wsX7_chooseState_r3 : List Cond := [Cond.methodLink RX1 51 yX1_has, Cond.instanceMethod yX1_has, Cond.selects RX1 yX1_has yX1_has, Cond.code yX1_has cX1_has 2 (some .boolean), Cond.methodLink RX7 298 yX6_deepestThatWakes, Cond.instanceMethod yX6_deepestThatWakes, Cond.selects RX6 yX6_deepestThatWakes yX6_deepestThatWakes, Cond.initialized RX6, Cond.code yX6_deepestThatWakes cX6_deepestThatWakes 4 (some .int), Cond.methodLink RX6 33 yX6_latencyOf, Cond.instanceMethod yX6_latencyOf, Cond.selects RX6 yX6_latencyOf yX6_latencyOf, Cond.code yX6_latencyOf cX6_latencyOf 2 (some .int), Cond.fieldLink RX6 18 "SleepPlanner$States" "latency" "[I", Cond.static yX7_read, Cond.code yX7_read cX7_read 2 (some .int), Cond.methodLink RX7 302 yX2_mean, Cond.instanceMethod yX2_mean, Cond.selects RX2 yX2_mean yX2_mean, Cond.initialized RX2, Cond.code yX2_mean cX2_mean 3 (some .int), Cond.fieldLink RX2 15 "SleepPlanner$IdleTimes" "count" "I", Cond.constant RX2 25 (1000000000), Cond.fieldLink RX2 11 "SleepPlanner$IdleTimes" "lengths" "[I"]
def wsX7_chooseState_r4 : List Cond := [Cond.methodLink RX7 305 yX6_deepestWorthwhile, Cond.instanceMethod yX6_deepestWorthwhile, Cond.selects RX6 yX6_deepestWorthwhile yX6_deepestWorthwhile, Cond.code yX6_deepestWorthwhile cX6_deepestWorthwhile 5 (some .int), Cond.methodLink RX6 42 yX6_leastWorthwhile, Cond.instanceMethod yX6_leastWorthwhile, Cond.selects RX6 yX6_leastWorthwhile yX6_leastWorthwhile, Cond.code yX6_leastWorthwhile cX6_leastWorthwhile 4 (some .int), Cond.methodLink RX6 36 yX6_costOf, Cond.instanceMethod yX6_costOf, Cond.selects RX6 yX6_costOf yX6_costOf, Cond.code yX6_costOf cX6_costOf 2 (some .int), Cond.fieldLink RX6 15 "SleepPlanner$States" "cost" "[I", Cond.methodLink RX6 29 yX6_powerOf, Cond.instanceMethod yX6_powerOf, Cond.selects RX6 yX6_powerOf yX6_powerOf, Cond.code yX6_powerOf cX6_powerOf 2 (some .int), Cond.fieldLink RX6 9 "SleepPlanner$States" "power" "[I"]
def wsX7_chooseState : List Cond := .code yX7_chooseState cX7_chooseState 2 (some .int) :: ((wsX7_chooseState_r1 ++ (wsX7_chooseState_r2 ++ (wsX7_chooseState_r3 ++ wsX7_chooseState_r4))) ++ wsX70 ++ wsX20 ++ wsX30 ++ wsX10 ++ wsX60)
def wsX7_fallAsleep : List Cond := .code yX7_fallAsleep cX7_fallAsleep 2 none :: ([.fieldLink RX7 72 "SleepPlanner" "state" "I", .fieldLink RX7 69 "SleepPlanner" "now" "I", .fieldLink RX7 75 "SleepPlanner" "asleepSince" "I", .fieldLink RX7 47 "SleepPlanner" "ledger" "LSleepPlanner$Ledger;", .fieldLink RX7 10 "SleepPlanner" "states" "LSleepPlanner$States;", .methodLink RX7 308 yX6_costOf, .instanceMethod yX6_costOf, .selects RX6 yX6_costOf yX6_costOf, .initialized RX6, .code yX6_costOf cX6_costOf 2 (some .int), .fieldLink RX6 15 "SleepPlanner$States" "cost" "[I", .static yX7_read, .initialized RX7, .code yX7_read cX7_read 2 (some .int), .methodLink RX7 262 yX4_spend, .instanceMethod yX4_spend, .selects RX4 yX4_spend yX4_spend, .initialized RX4, .code yX4_spend cX4_spend 3 none, .fieldLink RX4 15 "SleepPlanner$Ledger" "spent" "J", .fieldLink RX4 19 "SleepPlanner$Ledger" "unpaid" "J"] ++ wsX70 ++ wsX40 ++ wsX60)
def wsX7_powerOfTick_r1 : List Cond := [Cond.fieldLink RX7 10 "SleepPlanner" "states" "LSleepPlanner$States;", Cond.fieldLink RX7 72 "SleepPlanner" "state" "I", Cond.methodLink RX7 277 yX7_ticksToWakeup, Cond.instanceMethod yX7_ticksToWakeup, Cond.selects RX7 yX7_ticksToWakeup yX7_ticksToWakeup, Cond.initialized RX7, Cond.code yX7_ticksToWakeup cX7_ticksToWakeup 2 (some .int), Cond.constant RX7 180 (1000000000), Cond.fieldLink RX7 69 "SleepPlanner" "now" "I", Cond.methodLink RX7 311 yX7_nextWakeup, Cond.instanceMethod yX7_nextWakeup, Cond.selects RX7 yX7_nextWakeup yX7_nextWakeup, Cond.code yX7_nextWakeup cX7_nextWakeup 1 (some .int), Cond.fieldLink RX7 30 "SleepPlanner" "timers" "LSleepPlanner$Jobs;", Cond.methodLink RX7 181 yX3_leastLatest, Cond.instanceMethod yX3_leastLatest, Cond.selects RX3 yX3_leastLatest yX3_leastLatest, Cond.initialized RX3, Cond.code yX3_leastLatest cX3_leastLatest 6 (some .int), Cond.fieldLink RX3 21 "SleepPlanner$Jobs" "count" "I", Cond.fieldLink RX3 11 "SleepPlanner$Jobs" "due" "[I", Cond.fieldLink RX3 15 "SleepPlanner$Jobs" "latest" "[I", Cond.methodLink RX7 286 yX6_latencyOf, Cond.instanceMethod yX6_latencyOf]
def wsX7_powerOfTick_r2 : List Cond := [Cond.selects RX6 yX6_latencyOf yX6_latencyOf, Cond.initialized RX6, Cond.code yX6_latencyOf cX6_latencyOf 2 (some .int), Cond.fieldLink RX6 18 "SleepPlanner$States" "latency" "[I", Cond.static yX7_read, Cond.code yX7_read cX7_read 2 (some .int), Cond.methodLink RX7 98 yX6_powerOf, Cond.instanceMethod yX6_powerOf, Cond.selects RX6 yX6_powerOf yX6_powerOf, Cond.code yX6_powerOf cX6_powerOf 2 (some .int), Cond.fieldLink RX6 9 "SleepPlanner$States" "power" "[I"]
def wsX7_powerOfTick : List Cond := .code yX7_powerOfTick cX7_powerOfTick 2 (some .int) :: ((wsX7_powerOfTick_r1 ++ wsX7_powerOfTick_r2) ++ wsX70 ++ wsX30 ++ wsX60)
def wsJ9_floorMod_7cf53 : List Cond := .code yJ9_floorMod_7cf53 cJ9_floorMod_7cf53 3 (some .int) :: ([])
def wsX7_playTick_r1 : List Cond := [Cond.fieldLink RX7 72 "SleepPlanner" "state" "I", Cond.fieldLink RX7 47 "SleepPlanner" "ledger" "LSleepPlanner$Ledger;", Cond.fieldLink RX7 54 "SleepPlanner" "battery" "LSleepPlanner$Battery;", Cond.fieldLink RX7 69 "SleepPlanner" "now" "I", Cond.methodLink RX7 243 yX7_wakeIfCalledFor, Cond.instanceMethod yX7_wakeIfCalledFor, Cond.selects RX7 yX7_wakeIfCalledFor yX7_wakeIfCalledFor, Cond.initialized RX7, Cond.code yX7_wakeIfCalledFor cX7_wakeIfCalledFor 2 none, Cond.fieldLink RX7 34 "SleepPlanner" "events" "LSleepPlanner$Jobs;", Cond.fieldLink RX7 10 "SleepPlanner" "states" "LSleepPlanner$States;", Cond.methodLink RX7 277 yX7_ticksToWakeup, Cond.instanceMethod yX7_ticksToWakeup, Cond.selects RX7 yX7_ticksToWakeup yX7_ticksToWakeup, Cond.code yX7_ticksToWakeup cX7_ticksToWakeup 2 (some .int), Cond.constant RX7 180 (1000000000), Cond.methodLink RX7 311 yX7_nextWakeup, Cond.instanceMethod yX7_nextWakeup, Cond.selects RX7 yX7_nextWakeup yX7_nextWakeup, Cond.code yX7_nextWakeup cX7_nextWakeup 1 (some .int), Cond.fieldLink RX7 30 "SleepPlanner" "timers" "LSleepPlanner$Jobs;", Cond.methodLink RX7 181 yX3_leastLatest, Cond.instanceMethod yX3_leastLatest, Cond.selects RX3 yX3_leastLatest yX3_leastLatest]
def wsX7_playTick_r2 : List Cond := [Cond.initialized RX3, Cond.code yX3_leastLatest cX3_leastLatest 6 (some .int), Cond.fieldLink RX3 21 "SleepPlanner$Jobs" "count" "I", Cond.fieldLink RX3 11 "SleepPlanner$Jobs" "due" "[I", Cond.fieldLink RX3 15 "SleepPlanner$Jobs" "latest" "[I", Cond.methodLink RX7 280 yX3_isAnyDue, Cond.instanceMethod yX3_isAnyDue, Cond.selects RX3 yX3_isAnyDue yX3_isAnyDue, Cond.code yX3_isAnyDue cX3_isAnyDue 3 (some .boolean), Cond.methodLink RX7 283 yX6_wakingCost, Cond.instanceMethod yX6_wakingCost, Cond.selects RX6 yX6_wakingCost yX6_wakingCost, Cond.initialized RX6, Cond.code yX6_wakingCost cX6_wakingCost 2 (some .int), Cond.methodLink RX6 29 yX6_powerOf, Cond.instanceMethod yX6_powerOf, Cond.selects RX6 yX6_powerOf yX6_powerOf, Cond.code yX6_powerOf cX6_powerOf 2 (some .int), Cond.fieldLink RX6 9 "SleepPlanner$States" "power" "[I", Cond.static yX7_read, Cond.code yX7_read cX7_read 2 (some .int), Cond.methodLink RX6 33 yX6_latencyOf, Cond.instanceMethod yX6_latencyOf, Cond.selects RX6 yX6_latencyOf yX6_latencyOf]
def wsX7_playTick_r3 : List Cond := [Cond.code yX6_latencyOf cX6_latencyOf 2 (some .int), Cond.fieldLink RX6 18 "SleepPlanner$States" "latency" "[I", Cond.methodLink RX7 262 yX4_spend, Cond.instanceMethod yX4_spend, Cond.selects RX4 yX4_spend yX4_spend, Cond.initialized RX4, Cond.code yX4_spend cX4_spend 3 none, Cond.fieldLink RX4 15 "SleepPlanner$Ledger" "spent" "J", Cond.fieldLink RX4 19 "SleepPlanner$Ledger" "unpaid" "J", Cond.methodLink RX7 286 yX6_latencyOf, Cond.methodLink RX7 289 yX7_endIdleTime, Cond.instanceMethod yX7_endIdleTime, Cond.selects RX7 yX7_endIdleTime yX7_endIdleTime, Cond.code yX7_endIdleTime cX7_endIdleTime 1 none, Cond.fieldLink RX7 40 "SleepPlanner" "idleTimes" "LSleepPlanner$IdleTimes;", Cond.fieldLink RX7 75 "SleepPlanner" "asleepSince" "I", Cond.methodLink RX7 292 yX2_remember, Cond.instanceMethod yX2_remember, Cond.selects RX2 yX2_remember yX2_remember, Cond.initialized RX2, Cond.code yX2_remember cX2_remember 3 none, Cond.fieldLink RX2 11 "SleepPlanner$IdleTimes" "lengths" "[I", Cond.fieldLink RX2 15 "SleepPlanner$IdleTimes" "count" "I", Cond.methodLink RX2 19 Lib.Math.min.name]
def wsX7_playTick_r4 : List Cond := [Cond.static Lib.Math.min.name, Cond.initialized "java/lang/Math", Cond.code Lib.Math.min.name Lib.Math.min.code 2 (some .int), Cond.methodLink RX7 246 yX7_serveWhatIsDue, Cond.instanceMethod yX7_serveWhatIsDue, Cond.selects RX7 yX7_serveWhatIsDue yX7_serveWhatIsDue, Cond.code yX7_serveWhatIsDue cX7_serveWhatIsDue 2 none, Cond.methodLink RX7 295 yX3_takeDue, Cond.instanceMethod yX3_takeDue, Cond.selects RX3 yX3_takeDue yX3_takeDue, Cond.code yX3_takeDue cX3_takeDue 5 (some .int), Cond.fieldLink RX3 18 "SleepPlanner$Jobs" "work" "[I", Cond.methodLink RX7 98 yX6_powerOf, Cond.methodLink RX7 249 yX7_chooseState, Cond.instanceMethod yX7_chooseState, Cond.selects RX7 yX7_chooseState yX7_chooseState, Cond.code yX7_chooseState cX7_chooseState 2 (some .int), Cond.fieldLink RX7 65 "SleepPlanner" "rule" "I", Cond.methodLink RX7 155 Lib.Math.min.name, Cond.methodLink RX7 233 yX7_depth, Cond.instanceMethod yX7_depth, Cond.selects RX7 yX7_depth yX7_depth, Cond.code yX7_depth cX7_depth 3 (some .int), Cond.fieldLink RX7 23 "SleepPlanner" "clocks" "LSleepPlanner$Clocks;"]
def wsX7_playTick_r5 : List Cond := [Cond.fieldLink RX7 16 "SleepPlanner" "votes" "[I", Cond.methodLink RX7 151 yX1_leastDeepest, Cond.instanceMethod yX1_leastDeepest, Cond.selects RX1 yX1_leastDeepest yX1_leastDeepest, Cond.initialized RX1, Cond.code yX1_leastDeepest cX1_leastDeepest 3 (some .int), Cond.fieldLink RX1 28 "SleepPlanner$Clocks" "count" "I", Cond.fieldLink RX1 24 "SleepPlanner$Clocks" "running" "[Z", Cond.fieldLink RX1 18 "SleepPlanner$Clocks" "deepest" "[I", Cond.methodLink RX1 55 Lib.Math.min.name, Cond.methodLink RX1 48 yX1_markRunning, Cond.instanceMethod yX1_markRunning, Cond.selects RX1 yX1_markRunning yX1_markRunning, Cond.code yX1_markRunning cX1_markRunning 2 none, Cond.fieldLink RX1 21 "SleepPlanner$Clocks" "uses" "[I", Cond.fieldLink RX1 11 "SleepPlanner$Clocks" "parent" "[I", Cond.methodLink RX1 51 yX1_has, Cond.instanceMethod yX1_has, Cond.selects RX1 yX1_has yX1_has, Cond.code yX1_has cX1_has 2 (some .boolean), Cond.methodLink RX7 298 yX6_deepestThatWakes, Cond.instanceMethod yX6_deepestThatWakes, Cond.selects RX6 yX6_deepestThatWakes yX6_deepestThatWakes, Cond.code yX6_deepestThatWakes cX6_deepestThatWakes 4 (some .int)]
def wsX7_playTick_r6 : List Cond := [Cond.methodLink RX7 302 yX2_mean, Cond.instanceMethod yX2_mean, Cond.selects RX2 yX2_mean yX2_mean, Cond.code yX2_mean cX2_mean 3 (some .int), Cond.constant RX2 25 (1000000000), Cond.methodLink RX7 305 yX6_deepestWorthwhile, Cond.instanceMethod yX6_deepestWorthwhile, Cond.selects RX6 yX6_deepestWorthwhile yX6_deepestWorthwhile, Cond.code yX6_deepestWorthwhile cX6_deepestWorthwhile 5 (some .int), Cond.methodLink RX6 42 yX6_leastWorthwhile, Cond.instanceMethod yX6_leastWorthwhile, Cond.selects RX6 yX6_leastWorthwhile yX6_leastWorthwhile, Cond.code yX6_leastWorthwhile cX6_leastWorthwhile 4 (some .int), Cond.methodLink RX6 36 yX6_costOf, Cond.instanceMethod yX6_costOf, Cond.selects RX6 yX6_costOf yX6_costOf, Cond.code yX6_costOf cX6_costOf 2 (some .int), Cond.fieldLink RX6 15 "SleepPlanner$States" "cost" "[I", Cond.methodLink RX7 252 yX7_fallAsleep, Cond.instanceMethod yX7_fallAsleep, Cond.selects RX7 yX7_fallAsleep yX7_fallAsleep, Cond.code yX7_fallAsleep cX7_fallAsleep 2 none, Cond.methodLink RX7 308 yX6_costOf, Cond.methodLink RX7 256 yX4_countTick]
def wsX7_playTick_r7 : List Cond := [Cond.instanceMethod yX4_countTick, Cond.selects RX4 yX4_countTick yX4_countTick, Cond.code yX4_countTick cX4_countTick 2 none, Cond.fieldLink RX4 9 "SleepPlanner$Ledger" "ticksIn" "[I", Cond.static yX7_exchange, Cond.code yX7_exchange cX7_exchange 4 (some .int), Cond.methodLink RX7 259 yX7_powerOfTick, Cond.instanceMethod yX7_powerOfTick, Cond.selects RX7 yX7_powerOfTick yX7_powerOfTick, Cond.code yX7_powerOfTick cX7_powerOfTick 2 (some .int), Cond.methodLink RX7 266 yJ9_floorMod_7cf53, Cond.static yJ9_floorMod_7cf53, Cond.initialized RJ9, Cond.code yJ9_floorMod_7cf53 cJ9_floorMod_7cf53 3 (some .int), Cond.methodLink RX7 269 yX4_takeUnpaid, Cond.instanceMethod yX4_takeUnpaid, Cond.selects RX4 yX4_takeUnpaid yX4_takeUnpaid, Cond.code yX4_takeUnpaid cX4_takeUnpaid 3 (some .long), Cond.methodLink RX7 273 yX0_takeTick, Cond.instanceMethod yX0_takeTick, Cond.selects RX0 yX0_takeTick yX0_takeTick, Cond.initialized RX0, Cond.code yX0_takeTick cX0_takeTick 6 none, Cond.fieldLink RX0 16 "SleepPlanner$Battery" "available" "I"]
def wsX7_playTick_r8 : List Cond := [Cond.fieldLink RX0 9 "SleepPlanner$Battery" "harvest" "[I", Cond.fieldLink RX0 24 "SleepPlanner$Battery" "shortTicks" "I", Cond.constantLong RX0 31 (50000), Cond.methodLink RX0 33 Lib.MathLoose.min_long.x, Cond.static Lib.MathLoose.min_long.x, Cond.code Lib.MathLoose.min_long.x Lib.MathLoose.min_long.code 4 (some .long), Cond.methodLink RX0 39 Lib.MathLoose.max_long.x, Cond.static Lib.MathLoose.max_long.x, Cond.code Lib.MathLoose.max_long.x Lib.MathLoose.max_long.code 4 (some .long), Cond.methodLink RX0 42 yX0_balance, Cond.instanceMethod yX0_balance, Cond.selects RX0 yX0_balance yX0_balance, Cond.code yX0_balance cX0_balance 2 none, Cond.fieldLink RX0 21 "SleepPlanner$Battery" "bound" "I", Cond.constant RX0 15 (50000), Cond.methodLink RX0 49 Lib.Math.min.name, Cond.constant RX0 20 (100000), Cond.methodLink RX0 45 yJ9_floorDiv_7cf53, Cond.static yJ9_floorDiv_7cf53, Cond.code yJ9_floorDiv_7cf53 cJ9_floorDiv_7cf53 3 (some .int)]
def wsX7_playTick : List Cond := .code yX7_playTick cX7_playTick 1 none :: ((wsX7_playTick_r1 ++ (wsX7_playTick_r2 ++ (wsX7_playTick_r3 ++ (wsX7_playTick_r4 ++ (wsX7_playTick_r5 ++ (wsX7_playTick_r6 ++ (wsX7_playTick_r7 ++ wsX7_playTick_r8))))))) ++ wsX70 ++ wsX40 ++ wsX30 ++ wsX60 ++ wsX20 ++ wsX10 ++ wsX00)
def wsX7_play_r1 : List Cond := [Cond.classLink RX7 82 "java/lang/IllegalArgumentException", Cond.initialized "java/lang/IllegalArgumentException", Cond.fieldLink RX7 69 "SleepPlanner" "now" "I", Cond.methodLink RX7 78 yX7_isWithin, Cond.static yX7_isWithin, Cond.initialized RX7, Cond.code yX7_isWithin cX7_isWithin 3 (some .boolean), Cond.methodLink RX7 186 yX7_playTick, Cond.instanceMethod yX7_playTick, Cond.selects RX7 yX7_playTick yX7_playTick, Cond.code yX7_playTick cX7_playTick 1 none, Cond.fieldLink RX7 72 "SleepPlanner" "state" "I", Cond.fieldLink RX7 47 "SleepPlanner" "ledger" "LSleepPlanner$Ledger;", Cond.fieldLink RX7 54 "SleepPlanner" "battery" "LSleepPlanner$Battery;", Cond.methodLink RX7 243 yX7_wakeIfCalledFor, Cond.instanceMethod yX7_wakeIfCalledFor, Cond.selects RX7 yX7_wakeIfCalledFor yX7_wakeIfCalledFor, Cond.code yX7_wakeIfCalledFor cX7_wakeIfCalledFor 2 none, Cond.fieldLink RX7 34 "SleepPlanner" "events" "LSleepPlanner$Jobs;", Cond.fieldLink RX7 10 "SleepPlanner" "states" "LSleepPlanner$States;", Cond.methodLink RX7 277 yX7_ticksToWakeup, Cond.instanceMethod yX7_ticksToWakeup, Cond.selects RX7 yX7_ticksToWakeup yX7_ticksToWakeup, Cond.code yX7_ticksToWakeup cX7_ticksToWakeup 2 (some .int)]
def wsX7_play_r2 : List Cond := [Cond.constant RX7 180 (1000000000), Cond.methodLink RX7 311 yX7_nextWakeup, Cond.instanceMethod yX7_nextWakeup, Cond.selects RX7 yX7_nextWakeup yX7_nextWakeup, Cond.code yX7_nextWakeup cX7_nextWakeup 1 (some .int), Cond.fieldLink RX7 30 "SleepPlanner" "timers" "LSleepPlanner$Jobs;", Cond.methodLink RX7 181 yX3_leastLatest, Cond.instanceMethod yX3_leastLatest, Cond.selects RX3 yX3_leastLatest yX3_leastLatest, Cond.initialized RX3, Cond.code yX3_leastLatest cX3_leastLatest 6 (some .int), Cond.fieldLink RX3 21 "SleepPlanner$Jobs" "count" "I", Cond.fieldLink RX3 11 "SleepPlanner$Jobs" "due" "[I", Cond.fieldLink RX3 15 "SleepPlanner$Jobs" "latest" "[I", Cond.methodLink RX7 280 yX3_isAnyDue, Cond.instanceMethod yX3_isAnyDue, Cond.selects RX3 yX3_isAnyDue yX3_isAnyDue, Cond.code yX3_isAnyDue cX3_isAnyDue 3 (some .boolean), Cond.methodLink RX7 283 yX6_wakingCost, Cond.instanceMethod yX6_wakingCost, Cond.selects RX6 yX6_wakingCost yX6_wakingCost, Cond.initialized RX6, Cond.code yX6_wakingCost cX6_wakingCost 2 (some .int), Cond.methodLink RX6 29 yX6_powerOf]
def wsX7_play_r3 : List Cond := [Cond.instanceMethod yX6_powerOf, Cond.selects RX6 yX6_powerOf yX6_powerOf, Cond.code yX6_powerOf cX6_powerOf 2 (some .int), Cond.fieldLink RX6 9 "SleepPlanner$States" "power" "[I", Cond.static yX7_read, Cond.code yX7_read cX7_read 2 (some .int), Cond.methodLink RX6 33 yX6_latencyOf, Cond.instanceMethod yX6_latencyOf, Cond.selects RX6 yX6_latencyOf yX6_latencyOf, Cond.code yX6_latencyOf cX6_latencyOf 2 (some .int), Cond.fieldLink RX6 18 "SleepPlanner$States" "latency" "[I", Cond.methodLink RX7 262 yX4_spend, Cond.instanceMethod yX4_spend, Cond.selects RX4 yX4_spend yX4_spend, Cond.initialized RX4, Cond.code yX4_spend cX4_spend 3 none, Cond.fieldLink RX4 15 "SleepPlanner$Ledger" "spent" "J", Cond.fieldLink RX4 19 "SleepPlanner$Ledger" "unpaid" "J", Cond.methodLink RX7 286 yX6_latencyOf, Cond.methodLink RX7 289 yX7_endIdleTime, Cond.instanceMethod yX7_endIdleTime, Cond.selects RX7 yX7_endIdleTime yX7_endIdleTime, Cond.code yX7_endIdleTime cX7_endIdleTime 1 none, Cond.fieldLink RX7 40 "SleepPlanner" "idleTimes" "LSleepPlanner$IdleTimes;"]
def wsX7_play_r4 : List Cond := [Cond.fieldLink RX7 75 "SleepPlanner" "asleepSince" "I", Cond.methodLink RX7 292 yX2_remember, Cond.instanceMethod yX2_remember, Cond.selects RX2 yX2_remember yX2_remember, Cond.initialized RX2, Cond.code yX2_remember cX2_remember 3 none, Cond.fieldLink RX2 11 "SleepPlanner$IdleTimes" "lengths" "[I", Cond.fieldLink RX2 15 "SleepPlanner$IdleTimes" "count" "I", Cond.methodLink RX2 19 Lib.Math.min.name, Cond.static Lib.Math.min.name, Cond.initialized "java/lang/Math", Cond.code Lib.Math.min.name Lib.Math.min.code 2 (some .int), Cond.methodLink RX7 246 yX7_serveWhatIsDue, Cond.instanceMethod yX7_serveWhatIsDue, Cond.selects RX7 yX7_serveWhatIsDue yX7_serveWhatIsDue, Cond.code yX7_serveWhatIsDue cX7_serveWhatIsDue 2 none, Cond.methodLink RX7 295 yX3_takeDue, Cond.instanceMethod yX3_takeDue, Cond.selects RX3 yX3_takeDue yX3_takeDue, Cond.code yX3_takeDue cX3_takeDue 5 (some .int), Cond.fieldLink RX3 18 "SleepPlanner$Jobs" "work" "[I", Cond.methodLink RX7 98 yX6_powerOf, Cond.methodLink RX7 249 yX7_chooseState, Cond.instanceMethod yX7_chooseState]
def wsX7_play_r5 : List Cond := [Cond.selects RX7 yX7_chooseState yX7_chooseState, Cond.code yX7_chooseState cX7_chooseState 2 (some .int), Cond.fieldLink RX7 65 "SleepPlanner" "rule" "I", Cond.methodLink RX7 155 Lib.Math.min.name, Cond.methodLink RX7 233 yX7_depth, Cond.instanceMethod yX7_depth, Cond.selects RX7 yX7_depth yX7_depth, Cond.code yX7_depth cX7_depth 3 (some .int), Cond.fieldLink RX7 23 "SleepPlanner" "clocks" "LSleepPlanner$Clocks;", Cond.fieldLink RX7 16 "SleepPlanner" "votes" "[I", Cond.methodLink RX7 151 yX1_leastDeepest, Cond.instanceMethod yX1_leastDeepest, Cond.selects RX1 yX1_leastDeepest yX1_leastDeepest, Cond.initialized RX1, Cond.code yX1_leastDeepest cX1_leastDeepest 3 (some .int), Cond.fieldLink RX1 28 "SleepPlanner$Clocks" "count" "I", Cond.fieldLink RX1 24 "SleepPlanner$Clocks" "running" "[Z", Cond.fieldLink RX1 18 "SleepPlanner$Clocks" "deepest" "[I", Cond.methodLink RX1 55 Lib.Math.min.name, Cond.methodLink RX1 48 yX1_markRunning, Cond.instanceMethod yX1_markRunning, Cond.selects RX1 yX1_markRunning yX1_markRunning, Cond.code yX1_markRunning cX1_markRunning 2 none, Cond.fieldLink RX1 21 "SleepPlanner$Clocks" "uses" "[I"]
def wsX7_play_r6 : List Cond := [Cond.fieldLink RX1 11 "SleepPlanner$Clocks" "parent" "[I", Cond.methodLink RX1 51 yX1_has, Cond.instanceMethod yX1_has, Cond.selects RX1 yX1_has yX1_has, Cond.code yX1_has cX1_has 2 (some .boolean), Cond.methodLink RX7 298 yX6_deepestThatWakes, Cond.instanceMethod yX6_deepestThatWakes, Cond.selects RX6 yX6_deepestThatWakes yX6_deepestThatWakes, Cond.code yX6_deepestThatWakes cX6_deepestThatWakes 4 (some .int), Cond.methodLink RX7 302 yX2_mean, Cond.instanceMethod yX2_mean, Cond.selects RX2 yX2_mean yX2_mean, Cond.code yX2_mean cX2_mean 3 (some .int), Cond.constant RX2 25 (1000000000), Cond.methodLink RX7 305 yX6_deepestWorthwhile, Cond.instanceMethod yX6_deepestWorthwhile, Cond.selects RX6 yX6_deepestWorthwhile yX6_deepestWorthwhile, Cond.code yX6_deepestWorthwhile cX6_deepestWorthwhile 5 (some .int), Cond.methodLink RX6 42 yX6_leastWorthwhile, Cond.instanceMethod yX6_leastWorthwhile, Cond.selects RX6 yX6_leastWorthwhile yX6_leastWorthwhile, Cond.code yX6_leastWorthwhile cX6_leastWorthwhile 4 (some .int), Cond.methodLink RX6 36 yX6_costOf, Cond.instanceMethod yX6_costOf]
def wsX7_play_r7 : List Cond := [Cond.selects RX6 yX6_costOf yX6_costOf, Cond.code yX6_costOf cX6_costOf 2 (some .int), Cond.fieldLink RX6 15 "SleepPlanner$States" "cost" "[I", Cond.methodLink RX7 252 yX7_fallAsleep, Cond.instanceMethod yX7_fallAsleep, Cond.selects RX7 yX7_fallAsleep yX7_fallAsleep, Cond.code yX7_fallAsleep cX7_fallAsleep 2 none, Cond.methodLink RX7 308 yX6_costOf, Cond.methodLink RX7 256 yX4_countTick, Cond.instanceMethod yX4_countTick, Cond.selects RX4 yX4_countTick yX4_countTick, Cond.code yX4_countTick cX4_countTick 2 none, Cond.fieldLink RX4 9 "SleepPlanner$Ledger" "ticksIn" "[I", Cond.static yX7_exchange, Cond.code yX7_exchange cX7_exchange 4 (some .int), Cond.methodLink RX7 259 yX7_powerOfTick, Cond.instanceMethod yX7_powerOfTick, Cond.selects RX7 yX7_powerOfTick yX7_powerOfTick, Cond.code yX7_powerOfTick cX7_powerOfTick 2 (some .int), Cond.methodLink RX7 266 yJ9_floorMod_7cf53, Cond.static yJ9_floorMod_7cf53, Cond.initialized RJ9, Cond.code yJ9_floorMod_7cf53 cJ9_floorMod_7cf53 3 (some .int), Cond.methodLink RX7 269 yX4_takeUnpaid]
def wsX7_play_r8 : List Cond := [Cond.instanceMethod yX4_takeUnpaid, Cond.selects RX4 yX4_takeUnpaid yX4_takeUnpaid, Cond.code yX4_takeUnpaid cX4_takeUnpaid 3 (some .long), Cond.methodLink RX7 273 yX0_takeTick, Cond.instanceMethod yX0_takeTick, Cond.selects RX0 yX0_takeTick yX0_takeTick, Cond.initialized RX0, Cond.code yX0_takeTick cX0_takeTick 6 none, Cond.fieldLink RX0 16 "SleepPlanner$Battery" "available" "I", Cond.fieldLink RX0 9 "SleepPlanner$Battery" "harvest" "[I", Cond.fieldLink RX0 24 "SleepPlanner$Battery" "shortTicks" "I", Cond.constantLong RX0 31 (50000), Cond.methodLink RX0 33 Lib.MathLoose.min_long.x, Cond.static Lib.MathLoose.min_long.x, Cond.code Lib.MathLoose.min_long.x Lib.MathLoose.min_long.code 4 (some .long), Cond.methodLink RX0 39 Lib.MathLoose.max_long.x, Cond.static Lib.MathLoose.max_long.x, Cond.code Lib.MathLoose.max_long.x Lib.MathLoose.max_long.code 4 (some .long), Cond.methodLink RX0 42 yX0_balance, Cond.instanceMethod yX0_balance, Cond.selects RX0 yX0_balance yX0_balance, Cond.code yX0_balance cX0_balance 2 none, Cond.fieldLink RX0 21 "SleepPlanner$Battery" "bound" "I", Cond.constant RX0 15 (50000)]
def wsX7_play_r9 : List Cond := [Cond.methodLink RX0 49 Lib.Math.min.name, Cond.constant RX0 20 (100000), Cond.methodLink RX0 45 yJ9_floorDiv_7cf53, Cond.static yJ9_floorDiv_7cf53, Cond.code yJ9_floorDiv_7cf53 cJ9_floorDiv_7cf53 3 (some .int)]
def wsX7_play : List Cond := .code yX7_play cX7_play 3 (some .int) :: ((wsX7_play_r1 ++ (wsX7_play_r2 ++ (wsX7_play_r3 ++ (wsX7_play_r4 ++ (wsX7_play_r5 ++ (wsX7_play_r6 ++ (wsX7_play_r7 ++ (wsX7_play_r8 ++ wsX7_play_r9)))))))) ++ wsX70 ++ wsX40 ++ wsX30 ++ wsX60 ++ wsX20 ++ wsX10 ++ wsX00 ++ (vx_atS RX7 86 "java/lang/IllegalArgumentException" ["java/lang/RuntimeException", "java/lang/Exception"]).filter goodWord)
def wsX7_now : List Cond := .code yX7_now cX7_now 1 (some .int) :: ([.fieldLink RX7 69 "SleepPlanner" "now" "I"] ++ wsX70)
def wsX7_state : List Cond := .code yX7_state cX7_state 1 (some .int) :: ([.fieldLink RX7 72 "SleepPlanner" "state" "I"] ++ wsX70)
def wsX7_spent : List Cond := .code yX7_spent cX7_spent 1 (some .long) :: ([.fieldLink RX7 47 "SleepPlanner" "ledger" "LSleepPlanner$Ledger;"] ++ wsX70 ++ wsX40)
def wsX7_ticksIn : List Cond := .code yX7_ticksIn cX7_ticksIn 2 (some .int) :: ([.classLink RX7 82 "java/lang/IllegalArgumentException", .initialized "java/lang/IllegalArgumentException", .fieldLink RX7 47 "SleepPlanner" "ledger" "LSleepPlanner$Ledger;", .methodLink RX7 78 yX7_isWithin, .static yX7_isWithin, .initialized RX7, .code yX7_isWithin cX7_isWithin 3 (some .boolean), .methodLink RX7 196 yX7_read, .static yX7_read, .code yX7_read cX7_read 2 (some .int)] ++ wsX70 ++ wsX40 ++ (vx_atS RX7 86 "java/lang/IllegalArgumentException" ["java/lang/RuntimeException", "java/lang/Exception"]).filter goodWord)
def wsX7_sleeps : List Cond := .code yX7_sleeps cX7_sleeps 1 (some .int) :: ([.fieldLink RX7 47 "SleepPlanner" "ledger" "LSleepPlanner$Ledger;"] ++ wsX70 ++ wsX40)
def wsX7_lateness : List Cond := .code yX7_lateness cX7_lateness 1 (some .int) :: ([.fieldLink RX7 47 "SleepPlanner" "ledger" "LSleepPlanner$Ledger;"] ++ wsX70 ++ wsX40)
def wsX7_served : List Cond := .code yX7_served cX7_served 1 (some .int) :: ([.fieldLink RX7 47 "SleepPlanner" "ledger" "LSleepPlanner$Ledger;"] ++ wsX70 ++ wsX40)
def wsX7_setHarvest : List Cond := .code yX7_setHarvest cX7_setHarvest 3 (some .int) :: ([.classLink RX7 82 "java/lang/IllegalArgumentException", .initialized "java/lang/IllegalArgumentException", .fieldLink RX7 54 "SleepPlanner" "battery" "LSleepPlanner$Battery;", .methodLink RX7 78 yX7_isWithin, .static yX7_isWithin, .initialized RX7, .code yX7_isWithin cX7_isWithin 3 (some .boolean), .methodLink RX7 104 yX7_exchange, .static yX7_exchange, .code yX7_exchange cX7_exchange 4 (some .int)] ++ wsX70 ++ wsX00 ++ (vx_atS RX7 86 "java/lang/IllegalArgumentException" ["java/lang/RuntimeException", "java/lang/Exception"]).filter goodWord)
def wsX7_available : List Cond := .code yX7_available cX7_available 1 (some .int) :: ([.fieldLink RX7 54 "SleepPlanner" "battery" "LSleepPlanner$Battery;"] ++ wsX70 ++ wsX00)
def wsX7_bound : List Cond := .code yX7_bound cX7_bound 1 (some .int) :: ([.fieldLink RX7 54 "SleepPlanner" "battery" "LSleepPlanner$Battery;"] ++ wsX70 ++ wsX00)
def wsX7_shortTicks : List Cond := .code yX7_shortTicks cX7_shortTicks 1 (some .int) :: ([.fieldLink RX7 54 "SleepPlanner" "battery" "LSleepPlanner$Battery;"] ++ wsX70 ++ wsX00)
def wsX7_plannedWakeups : List Cond := .code yX7_plannedWakeups cX7_plannedWakeups 2 (some .int) :: ([.classLink RX7 82 "java/lang/IllegalArgumentException", .initialized "java/lang/IllegalArgumentException", .fieldLink RX7 69 "SleepPlanner" "now" "I", .fieldLink RX7 61 "SleepPlanner" "plans" "LSleepPlanner$Plans;", .fieldLink RX7 30 "SleepPlanner" "timers" "LSleepPlanner$Jobs;", .methodLink RX7 78 yX7_isWithin, .static yX7_isWithin, .initialized RX7, .code yX7_isWithin cX7_isWithin 3 (some .boolean), .methodLink RX7 225 yX5_countPlanned, .instanceMethod yX5_countPlanned, .selects RX5 yX5_countPlanned yX5_countPlanned, .initialized RX5, .code yX5_countPlanned cX5_countPlanned 5 (some .int), .methodLink RX5 18 yX3_leastLatest, .instanceMethod yX3_leastLatest, .selects RX3 yX3_leastLatest yX3_leastLatest, .initialized RX3, .code yX3_leastLatest cX3_leastLatest 6 (some .int), .fieldLink RX3 21 "SleepPlanner$Jobs" "count" "I", .fieldLink RX3 11 "SleepPlanner$Jobs" "due" "[I", .fieldLink RX3 15 "SleepPlanner$Jobs" "latest" "[I"] ++ wsX70 ++ wsX30 ++ (vx_atS RX7 86 "java/lang/IllegalArgumentException" ["java/lang/RuntimeException", "java/lang/Exception"]).filter goodWord)
def wsX7_fewestWakeups_r1 : List Cond := [Cond.classLink RX7 82 "java/lang/IllegalArgumentException", Cond.initialized "java/lang/IllegalArgumentException", Cond.fieldLink RX7 69 "SleepPlanner" "now" "I", Cond.fieldLink RX7 61 "SleepPlanner" "plans" "LSleepPlanner$Plans;", Cond.fieldLink RX7 30 "SleepPlanner" "timers" "LSleepPlanner$Jobs;", Cond.methodLink RX7 78 yX7_isWithin, Cond.static yX7_isWithin, Cond.initialized RX7, Cond.code yX7_isWithin cX7_isWithin 3 (some .boolean), Cond.methodLink RX7 229 yX5_countFewest, Cond.instanceMethod yX5_countFewest, Cond.selects RX5 yX5_countFewest yX5_countFewest, Cond.initialized RX5, Cond.code yX5_countFewest cX5_countFewest 5 (some .int), Cond.fieldLink RX5 11 "SleepPlanner$Plans" "stepCost" "[J", Cond.methodLink RX5 37 yX5_leastSum, Cond.instanceMethod yX5_leastSum, Cond.selects RX5 yX5_leastSum yX5_leastSum, Cond.code yX5_leastSum cX5_leastSum 7 (some .long), Cond.fieldLink RX5 15 "SleepPlanner$Plans" "leastTo" "[J", Cond.methodLink RX5 44 yX5_earliestBefore, Cond.instanceMethod yX5_earliestBefore, Cond.selects RX5 yX5_earliestBefore yX5_earliestBefore, Cond.code yX5_earliestBefore cX5_earliestBefore 6 (some .int)]
def wsX7_fewestWakeups_r2 : List Cond := [Cond.methodLink RX5 56 Lib.Math.max.name, Cond.static Lib.Math.max.name, Cond.initialized "java/lang/Math", Cond.code Lib.Math.max.name Lib.Math.max.code 2 (some .int), Cond.methodLink RX5 52 yX3_greatestDue, Cond.instanceMethod yX3_greatestDue, Cond.selects RX3 yX3_greatestDue yX3_greatestDue, Cond.initialized RX3, Cond.code yX3_greatestDue cX3_greatestDue 4 (some .int), Cond.fieldLink RX3 21 "SleepPlanner$Jobs" "count" "I", Cond.fieldLink RX3 15 "SleepPlanner$Jobs" "latest" "[I", Cond.fieldLink RX3 11 "SleepPlanner$Jobs" "due" "[I", Cond.methodLink RX3 29 Lib.Math.max.name, Cond.methodLink RX5 48 yX5_leastSumTo, Cond.instanceMethod yX5_leastSumTo, Cond.selects RX5 yX5_leastSumTo yX5_leastSumTo, Cond.code yX5_leastSumTo cX5_leastSumTo 8 (some .long), Cond.constantLong RX5 61 (1000000000000)]
def wsX7_fewestWakeups : List Cond := .code yX7_fewestWakeups cX7_fewestWakeups 2 (some .int) :: ((wsX7_fewestWakeups_r1 ++ wsX7_fewestWakeups_r2) ++ wsX70 ++ wsX50 ++ wsX30 ++ (vx_atS RX7 86 "java/lang/IllegalArgumentException" ["java/lang/RuntimeException", "java/lang/Exception"]).filter goodWord)
def wsX7_plannedCost_r1 : List Cond := [Cond.classLink RX7 82 "java/lang/IllegalArgumentException", Cond.initialized "java/lang/IllegalArgumentException", Cond.fieldLink RX7 69 "SleepPlanner" "now" "I", Cond.fieldLink RX7 61 "SleepPlanner" "plans" "LSleepPlanner$Plans;", Cond.fieldLink RX7 30 "SleepPlanner" "timers" "LSleepPlanner$Jobs;", Cond.fieldLink RX7 10 "SleepPlanner" "states" "LSleepPlanner$States;", Cond.methodLink RX7 78 yX7_isWithin, Cond.static yX7_isWithin, Cond.initialized RX7, Cond.code yX7_isWithin cX7_isWithin 3 (some .boolean), Cond.methodLink RX7 233 yX7_depth, Cond.instanceMethod yX7_depth, Cond.selects RX7 yX7_depth yX7_depth, Cond.code yX7_depth cX7_depth 3 (some .int), Cond.fieldLink RX7 23 "SleepPlanner" "clocks" "LSleepPlanner$Clocks;", Cond.fieldLink RX7 16 "SleepPlanner" "votes" "[I", Cond.methodLink RX7 155 Lib.Math.min.name, Cond.static Lib.Math.min.name, Cond.initialized "java/lang/Math", Cond.code Lib.Math.min.name Lib.Math.min.code 2 (some .int), Cond.methodLink RX7 151 yX1_leastDeepest, Cond.instanceMethod yX1_leastDeepest, Cond.selects RX1 yX1_leastDeepest yX1_leastDeepest, Cond.initialized RX1]
def wsX7_plannedCost_r2 : List Cond := [Cond.code yX1_leastDeepest cX1_leastDeepest 3 (some .int), Cond.fieldLink RX1 28 "SleepPlanner$Clocks" "count" "I", Cond.fieldLink RX1 24 "SleepPlanner$Clocks" "running" "[Z", Cond.fieldLink RX1 18 "SleepPlanner$Clocks" "deepest" "[I", Cond.methodLink RX1 55 Lib.Math.min.name, Cond.methodLink RX1 48 yX1_markRunning, Cond.instanceMethod yX1_markRunning, Cond.selects RX1 yX1_markRunning yX1_markRunning, Cond.code yX1_markRunning cX1_markRunning 2 none, Cond.fieldLink RX1 21 "SleepPlanner$Clocks" "uses" "[I", Cond.fieldLink RX1 11 "SleepPlanner$Clocks" "parent" "[I", Cond.methodLink RX1 51 yX1_has, Cond.instanceMethod yX1_has, Cond.selects RX1 yX1_has yX1_has, Cond.code yX1_has cX1_has 2 (some .boolean), Cond.methodLink RX7 236 yX5_sumPlanned, Cond.instanceMethod yX5_sumPlanned, Cond.selects RX5 yX5_sumPlanned yX5_sumPlanned, Cond.initialized RX5, Cond.code yX5_sumPlanned cX5_sumPlanned 12 (some .long), Cond.methodLink RX5 28 yX5_countPlanned, Cond.instanceMethod yX5_countPlanned, Cond.selects RX5 yX5_countPlanned yX5_countPlanned, Cond.code yX5_countPlanned cX5_countPlanned 5 (some .int)]
def wsX7_plannedCost_r3 : List Cond := [Cond.methodLink RX5 18 yX3_leastLatest, Cond.instanceMethod yX3_leastLatest, Cond.selects RX3 yX3_leastLatest yX3_leastLatest, Cond.initialized RX3, Cond.code yX3_leastLatest cX3_leastLatest 6 (some .int), Cond.fieldLink RX3 21 "SleepPlanner$Jobs" "count" "I", Cond.fieldLink RX3 11 "SleepPlanner$Jobs" "due" "[I", Cond.fieldLink RX3 15 "SleepPlanner$Jobs" "latest" "[I", Cond.methodLink RX5 32 yX6_plannedIdleCost, Cond.instanceMethod yX6_plannedIdleCost, Cond.selects RX6 yX6_plannedIdleCost yX6_plannedIdleCost, Cond.initialized RX6, Cond.code yX6_plannedIdleCost cX6_plannedIdleCost 3 (some .int), Cond.methodLink RX6 45 yX6_deepestWorthwhile, Cond.instanceMethod yX6_deepestWorthwhile, Cond.selects RX6 yX6_deepestWorthwhile yX6_deepestWorthwhile, Cond.code yX6_deepestWorthwhile cX6_deepestWorthwhile 5 (some .int), Cond.methodLink RX6 42 yX6_leastWorthwhile, Cond.instanceMethod yX6_leastWorthwhile, Cond.selects RX6 yX6_leastWorthwhile yX6_leastWorthwhile, Cond.code yX6_leastWorthwhile cX6_leastWorthwhile 4 (some .int), Cond.methodLink RX6 36 yX6_costOf, Cond.instanceMethod yX6_costOf, Cond.selects RX6 yX6_costOf yX6_costOf]
def wsX7_plannedCost_r4 : List Cond := [Cond.code yX6_costOf cX6_costOf 2 (some .int), Cond.fieldLink RX6 15 "SleepPlanner$States" "cost" "[I", Cond.static yX7_read, Cond.code yX7_read cX7_read 2 (some .int), Cond.methodLink RX6 33 yX6_latencyOf, Cond.instanceMethod yX6_latencyOf, Cond.selects RX6 yX6_latencyOf yX6_latencyOf, Cond.code yX6_latencyOf cX6_latencyOf 2 (some .int), Cond.fieldLink RX6 18 "SleepPlanner$States" "latency" "[I", Cond.methodLink RX6 29 yX6_powerOf, Cond.instanceMethod yX6_powerOf, Cond.selects RX6 yX6_powerOf yX6_powerOf, Cond.code yX6_powerOf cX6_powerOf 2 (some .int), Cond.fieldLink RX6 9 "SleepPlanner$States" "power" "[I", Cond.methodLink RX6 49 yX6_idleCost, Cond.instanceMethod yX6_idleCost, Cond.selects RX6 yX6_idleCost yX6_idleCost, Cond.code yX6_idleCost cX6_idleCost 3 (some .int), Cond.methodLink RX6 39 yX6_wakingCost, Cond.instanceMethod yX6_wakingCost, Cond.selects RX6 yX6_wakingCost yX6_wakingCost, Cond.code yX6_wakingCost cX6_wakingCost 2 (some .int)]
def wsX7_plannedCost : List Cond := .code yX7_plannedCost cX7_plannedCost 2 (some .long) :: ((wsX7_plannedCost_r1 ++ (wsX7_plannedCost_r2 ++ (wsX7_plannedCost_r3 ++ wsX7_plannedCost_r4))) ++ wsX70 ++ wsX10 ++ wsX30 ++ wsX60 ++ (vx_atS RX7 86 "java/lang/IllegalArgumentException" ["java/lang/RuntimeException", "java/lang/Exception"]).filter goodWord)
def wsX7_leastCost_r1 : List Cond := [Cond.classLink RX7 82 "java/lang/IllegalArgumentException", Cond.initialized "java/lang/IllegalArgumentException", Cond.fieldLink RX7 69 "SleepPlanner" "now" "I", Cond.fieldLink RX7 61 "SleepPlanner" "plans" "LSleepPlanner$Plans;", Cond.fieldLink RX7 30 "SleepPlanner" "timers" "LSleepPlanner$Jobs;", Cond.fieldLink RX7 10 "SleepPlanner" "states" "LSleepPlanner$States;", Cond.methodLink RX7 78 yX7_isWithin, Cond.static yX7_isWithin, Cond.initialized RX7, Cond.code yX7_isWithin cX7_isWithin 3 (some .boolean), Cond.methodLink RX7 233 yX7_depth, Cond.instanceMethod yX7_depth, Cond.selects RX7 yX7_depth yX7_depth, Cond.code yX7_depth cX7_depth 3 (some .int), Cond.fieldLink RX7 23 "SleepPlanner" "clocks" "LSleepPlanner$Clocks;", Cond.fieldLink RX7 16 "SleepPlanner" "votes" "[I", Cond.methodLink RX7 155 Lib.Math.min.name, Cond.static Lib.Math.min.name, Cond.initialized "java/lang/Math", Cond.code Lib.Math.min.name Lib.Math.min.code 2 (some .int), Cond.methodLink RX7 151 yX1_leastDeepest, Cond.instanceMethod yX1_leastDeepest, Cond.selects RX1 yX1_leastDeepest yX1_leastDeepest, Cond.initialized RX1]
def wsX7_leastCost_r2 : List Cond := [Cond.code yX1_leastDeepest cX1_leastDeepest 3 (some .int), Cond.fieldLink RX1 28 "SleepPlanner$Clocks" "count" "I", Cond.fieldLink RX1 24 "SleepPlanner$Clocks" "running" "[Z", Cond.fieldLink RX1 18 "SleepPlanner$Clocks" "deepest" "[I", Cond.methodLink RX1 55 Lib.Math.min.name, Cond.methodLink RX1 48 yX1_markRunning, Cond.instanceMethod yX1_markRunning, Cond.selects RX1 yX1_markRunning yX1_markRunning, Cond.code yX1_markRunning cX1_markRunning 2 none, Cond.fieldLink RX1 21 "SleepPlanner$Clocks" "uses" "[I", Cond.fieldLink RX1 11 "SleepPlanner$Clocks" "parent" "[I", Cond.methodLink RX1 51 yX1_has, Cond.instanceMethod yX1_has, Cond.selects RX1 yX1_has yX1_has, Cond.code yX1_has cX1_has 2 (some .boolean), Cond.methodLink RX7 240 yX5_sumLeast, Cond.instanceMethod yX5_sumLeast, Cond.selects RX5 yX5_sumLeast yX5_sumLeast, Cond.initialized RX5, Cond.code yX5_sumLeast cX5_sumLeast 7 (some .long), Cond.fieldLink RX5 11 "SleepPlanner$Plans" "stepCost" "[J", Cond.methodLink RX5 41 yX6_leastIdleCost, Cond.instanceMethod yX6_leastIdleCost, Cond.selects RX6 yX6_leastIdleCost yX6_leastIdleCost]
def wsX7_leastCost_r3 : List Cond := [Cond.initialized RX6, Cond.code yX6_leastIdleCost cX6_leastIdleCost 5 (some .int), Cond.methodLink RX6 52 Lib.Math.min.name, Cond.methodLink RX6 49 yX6_idleCost, Cond.instanceMethod yX6_idleCost, Cond.selects RX6 yX6_idleCost yX6_idleCost, Cond.code yX6_idleCost cX6_idleCost 3 (some .int), Cond.methodLink RX6 36 yX6_costOf, Cond.instanceMethod yX6_costOf, Cond.selects RX6 yX6_costOf yX6_costOf, Cond.code yX6_costOf cX6_costOf 2 (some .int), Cond.fieldLink RX6 15 "SleepPlanner$States" "cost" "[I", Cond.static yX7_read, Cond.code yX7_read cX7_read 2 (some .int), Cond.methodLink RX6 29 yX6_powerOf, Cond.instanceMethod yX6_powerOf, Cond.selects RX6 yX6_powerOf yX6_powerOf, Cond.code yX6_powerOf cX6_powerOf 2 (some .int), Cond.fieldLink RX6 9 "SleepPlanner$States" "power" "[I", Cond.methodLink RX6 33 yX6_latencyOf, Cond.instanceMethod yX6_latencyOf, Cond.selects RX6 yX6_latencyOf yX6_latencyOf, Cond.code yX6_latencyOf cX6_latencyOf 2 (some .int), Cond.fieldLink RX6 18 "SleepPlanner$States" "latency" "[I"]
def wsX7_leastCost_r4 : List Cond := [Cond.methodLink RX6 39 yX6_wakingCost, Cond.instanceMethod yX6_wakingCost, Cond.selects RX6 yX6_wakingCost yX6_wakingCost, Cond.code yX6_wakingCost cX6_wakingCost 2 (some .int), Cond.methodLink RX5 37 yX5_leastSum, Cond.instanceMethod yX5_leastSum, Cond.selects RX5 yX5_leastSum yX5_leastSum, Cond.code yX5_leastSum cX5_leastSum 7 (some .long), Cond.fieldLink RX5 15 "SleepPlanner$Plans" "leastTo" "[J", Cond.methodLink RX5 44 yX5_earliestBefore, Cond.instanceMethod yX5_earliestBefore, Cond.selects RX5 yX5_earliestBefore yX5_earliestBefore, Cond.code yX5_earliestBefore cX5_earliestBefore 6 (some .int), Cond.methodLink RX5 56 Lib.Math.max.name, Cond.static Lib.Math.max.name, Cond.code Lib.Math.max.name Lib.Math.max.code 2 (some .int), Cond.methodLink RX5 52 yX3_greatestDue, Cond.instanceMethod yX3_greatestDue, Cond.selects RX3 yX3_greatestDue yX3_greatestDue, Cond.initialized RX3, Cond.code yX3_greatestDue cX3_greatestDue 4 (some .int), Cond.fieldLink RX3 21 "SleepPlanner$Jobs" "count" "I", Cond.fieldLink RX3 15 "SleepPlanner$Jobs" "latest" "[I", Cond.fieldLink RX3 11 "SleepPlanner$Jobs" "due" "[I"]
def wsX7_leastCost_r5 : List Cond := [Cond.methodLink RX3 29 Lib.Math.max.name, Cond.methodLink RX5 48 yX5_leastSumTo, Cond.instanceMethod yX5_leastSumTo, Cond.selects RX5 yX5_leastSumTo yX5_leastSumTo, Cond.code yX5_leastSumTo cX5_leastSumTo 8 (some .long), Cond.constantLong RX5 61 (1000000000000)]
def wsX7_leastCost : List Cond := .code yX7_leastCost cX7_leastCost 2 (some .long) :: ((wsX7_leastCost_r1 ++ (wsX7_leastCost_r2 ++ (wsX7_leastCost_r3 ++ (wsX7_leastCost_r4 ++ wsX7_leastCost_r5)))) ++ wsX70 ++ wsX10 ++ wsX50 ++ wsX60 ++ wsX30 ++ (vx_atS RX7 86 "java/lang/IllegalArgumentException" ["java/lang/RuntimeException", "java/lang/Exception"]).filter goodWord)
def wsX8_init_r1 : List Cond := [Cond.methodLink RX8 1 objectInit, Cond.instanceMethod objectInit, Cond.code objectInit ⟨#[0xb1]⟩ 1 none, Cond.arrayClass .int, Cond.fieldLink RX8 7 "SleepPlannerModel" "power" "[I", Cond.fieldLink RX8 13 "SleepPlannerModel" "cost" "[I", Cond.fieldLink RX8 16 "SleepPlannerModel" "latency" "[I", Cond.fieldLink RX8 19 "SleepPlannerModel" "votes" "[I", Cond.fieldLink RX8 22 "SleepPlannerModel" "clocks" "I", Cond.fieldLink RX8 26 "SleepPlannerModel" "parent" "[I", Cond.fieldLink RX8 29 "SleepPlannerModel" "divider" "[I", Cond.fieldLink RX8 32 "SleepPlannerModel" "deepest" "[I", Cond.fieldLink RX8 35 "SleepPlannerModel" "uses" "[I", Cond.arrayClass .boolean, Cond.fieldLink RX8 38 "SleepPlannerModel" "isRunning" "[Z", Cond.fieldLink RX8 42 "SleepPlannerModel" "due" "[I", Cond.fieldLink RX8 45 "SleepPlannerModel" "latest" "[I", Cond.fieldLink RX8 48 "SleepPlannerModel" "work" "[I", Cond.fieldLink RX8 51 "SleepPlannerModel" "tick" "[I", Cond.fieldLink RX8 54 "SleepPlannerModel" "load" "[I", Cond.fieldLink RX8 57 "SleepPlannerModel" "rule" "I", Cond.fieldLink RX8 60 "SleepPlannerModel" "idle" "[I", Cond.fieldLink RX8 63 "SleepPlannerModel" "ticksIn" "[I", Cond.fieldLink RX8 66 "SleepPlannerModel" "harvest" "[I"]
def wsX8_init_r2 : List Cond := [Cond.constant RX8 69 (50000), Cond.fieldLink RX8 70 "SleepPlannerModel" "available" "I", Cond.constant RX8 73 (100000), Cond.fieldLink RX8 74 "SleepPlannerModel" "bound" "I", Cond.arrayClass .long, Cond.fieldLink RX8 77 "SleepPlannerModel" "least" "[J", Cond.fieldLink RX8 81 "SleepPlannerModel" "byLength" "[J"]
def wsX8_init : List Cond := .code yX8_init cX8_init 2 none :: ((wsX8_init_r1 ++ wsX8_init_r2) ++ wsX80)
def wsX8_thrown : List Cond := .code yX8_thrown cX8_thrown 1 (some .int) :: ([.fieldLink RX8 84 "SleepPlannerModel" "thrown" "I"] ++ wsX80)
def wsX8_fails : List Cond := .code yX8_fails cX8_fails 2 (some .int) :: ([.fieldLink RX8 84 "SleepPlannerModel" "thrown" "I"] ++ wsX80)
def wsX8_asks : List Cond := .code yX8_asks cX8_asks 2 (some .boolean) :: ([.fieldLink RX8 84 "SleepPlannerModel" "thrown" "I"] ++ wsX80)
def wsX8_in : List Cond := .code yX8_in cX8_in 3 (some .boolean) :: ([])
def wsX8_spends : List Cond := .code yX8_spends cX8_spends 3 none :: ([.fieldLink RX8 87 "SleepPlannerModel" "spent" "J", .fieldLink RX8 91 "SleepPlannerModel" "pending" "J"] ++ wsX80)
def wsX8_wakes : List Cond := .code yX8_wakes cX8_wakes 1 none :: ([.fieldLink RX8 60 "SleepPlannerModel" "idle" "[I", .fieldLink RX8 94 "SleepPlannerModel" "idles" "I", .fieldLink RX8 97 "SleepPlannerModel" "now" "I", .fieldLink RX8 100 "SleepPlannerModel" "asleepFrom" "I", .fieldLink RX8 103 "SleepPlannerModel" "state" "I"] ++ wsX80)
def wsX8_stirs : List Cond := .code yX8_stirs cX8_stirs 1 none :: ([.fieldLink RX8 103 "SleepPlannerModel" "state" "I", .fieldLink RX8 7 "SleepPlannerModel" "power" "[I", .fieldLink RX8 16 "SleepPlannerModel" "latency" "[I", .methodLink RX8 106 yX8_spends, .instanceMethod yX8_spends, .selects RX8 yX8_spends yX8_spends, .initialized RX8, .code yX8_spends cX8_spends 3 none, .fieldLink RX8 87 "SleepPlannerModel" "spent" "J", .fieldLink RX8 91 "SleepPlannerModel" "pending" "J", .methodLink RX8 110 yX8_wakes, .instanceMethod yX8_wakes, .selects RX8 yX8_wakes yX8_wakes, .code yX8_wakes cX8_wakes 1 none, .fieldLink RX8 60 "SleepPlannerModel" "idle" "[I", .fieldLink RX8 94 "SleepPlannerModel" "idles" "I", .fieldLink RX8 97 "SleepPlannerModel" "now" "I", .fieldLink RX8 100 "SleepPlannerModel" "asleepFrom" "I"] ++ wsX80)
def wsX8_setState_r1 : List Cond := [Cond.fieldLink RX8 7 "SleepPlannerModel" "power" "[I", Cond.fieldLink RX8 13 "SleepPlannerModel" "cost" "[I", Cond.fieldLink RX8 16 "SleepPlannerModel" "latency" "[I", Cond.methodLink RX8 113 yX8_in, Cond.static yX8_in, Cond.initialized RX8, Cond.code yX8_in cX8_in 3 (some .boolean), Cond.methodLink RX8 117 yX8_asks, Cond.instanceMethod yX8_asks, Cond.selects RX8 yX8_asks yX8_asks, Cond.code yX8_asks cX8_asks 2 (some .boolean), Cond.fieldLink RX8 84 "SleepPlannerModel" "thrown" "I", Cond.methodLink RX8 121 yX8_stirs, Cond.instanceMethod yX8_stirs, Cond.selects RX8 yX8_stirs yX8_stirs, Cond.code yX8_stirs cX8_stirs 1 none, Cond.fieldLink RX8 103 "SleepPlannerModel" "state" "I", Cond.methodLink RX8 106 yX8_spends, Cond.instanceMethod yX8_spends, Cond.selects RX8 yX8_spends yX8_spends, Cond.code yX8_spends cX8_spends 3 none, Cond.fieldLink RX8 87 "SleepPlannerModel" "spent" "J", Cond.fieldLink RX8 91 "SleepPlannerModel" "pending" "J", Cond.methodLink RX8 110 yX8_wakes]
def wsX8_setState_r2 : List Cond := [Cond.instanceMethod yX8_wakes, Cond.selects RX8 yX8_wakes yX8_wakes, Cond.code yX8_wakes cX8_wakes 1 none, Cond.fieldLink RX8 60 "SleepPlannerModel" "idle" "[I", Cond.fieldLink RX8 94 "SleepPlannerModel" "idles" "I", Cond.fieldLink RX8 97 "SleepPlannerModel" "now" "I", Cond.fieldLink RX8 100 "SleepPlannerModel" "asleepFrom" "I"]
def wsX8_setState : List Cond := .code yX8_setState cX8_setState 5 none :: ((wsX8_setState_r1 ++ wsX8_setState_r2) ++ wsX80)
def wsX8_setAwake_r1 : List Cond := [Cond.fieldLink RX8 7 "SleepPlannerModel" "power" "[I", Cond.methodLink RX8 113 yX8_in, Cond.static yX8_in, Cond.initialized RX8, Cond.code yX8_in cX8_in 3 (some .boolean), Cond.methodLink RX8 117 yX8_asks, Cond.instanceMethod yX8_asks, Cond.selects RX8 yX8_asks yX8_asks, Cond.code yX8_asks cX8_asks 2 (some .boolean), Cond.fieldLink RX8 84 "SleepPlannerModel" "thrown" "I", Cond.methodLink RX8 121 yX8_stirs, Cond.instanceMethod yX8_stirs, Cond.selects RX8 yX8_stirs yX8_stirs, Cond.code yX8_stirs cX8_stirs 1 none, Cond.fieldLink RX8 103 "SleepPlannerModel" "state" "I", Cond.fieldLink RX8 16 "SleepPlannerModel" "latency" "[I", Cond.methodLink RX8 106 yX8_spends, Cond.instanceMethod yX8_spends, Cond.selects RX8 yX8_spends yX8_spends, Cond.code yX8_spends cX8_spends 3 none, Cond.fieldLink RX8 87 "SleepPlannerModel" "spent" "J", Cond.fieldLink RX8 91 "SleepPlannerModel" "pending" "J", Cond.methodLink RX8 110 yX8_wakes, Cond.instanceMethod yX8_wakes]
def wsX8_setAwake_r2 : List Cond := [Cond.selects RX8 yX8_wakes yX8_wakes, Cond.code yX8_wakes cX8_wakes 1 none, Cond.fieldLink RX8 60 "SleepPlannerModel" "idle" "[I", Cond.fieldLink RX8 94 "SleepPlannerModel" "idles" "I", Cond.fieldLink RX8 97 "SleepPlannerModel" "now" "I", Cond.fieldLink RX8 100 "SleepPlannerModel" "asleepFrom" "I"]
def wsX8_setAwake : List Cond := .code yX8_setAwake cX8_setAwake 3 (some .int) :: ((wsX8_setAwake_r1 ++ wsX8_setAwake_r2) ++ wsX80)
def wsX8_vote_r1 : List Cond := [Cond.fieldLink RX8 19 "SleepPlannerModel" "votes" "[I", Cond.methodLink RX8 113 yX8_in, Cond.static yX8_in, Cond.initialized RX8, Cond.code yX8_in cX8_in 3 (some .boolean), Cond.methodLink RX8 117 yX8_asks, Cond.instanceMethod yX8_asks, Cond.selects RX8 yX8_asks yX8_asks, Cond.code yX8_asks cX8_asks 2 (some .boolean), Cond.fieldLink RX8 84 "SleepPlannerModel" "thrown" "I", Cond.methodLink RX8 121 yX8_stirs, Cond.instanceMethod yX8_stirs, Cond.selects RX8 yX8_stirs yX8_stirs, Cond.code yX8_stirs cX8_stirs 1 none, Cond.fieldLink RX8 103 "SleepPlannerModel" "state" "I", Cond.fieldLink RX8 7 "SleepPlannerModel" "power" "[I", Cond.fieldLink RX8 16 "SleepPlannerModel" "latency" "[I", Cond.methodLink RX8 106 yX8_spends, Cond.instanceMethod yX8_spends, Cond.selects RX8 yX8_spends yX8_spends, Cond.code yX8_spends cX8_spends 3 none, Cond.fieldLink RX8 87 "SleepPlannerModel" "spent" "J", Cond.fieldLink RX8 91 "SleepPlannerModel" "pending" "J", Cond.methodLink RX8 110 yX8_wakes]
def wsX8_vote_r2 : List Cond := [Cond.instanceMethod yX8_wakes, Cond.selects RX8 yX8_wakes yX8_wakes, Cond.code yX8_wakes cX8_wakes 1 none, Cond.fieldLink RX8 60 "SleepPlannerModel" "idle" "[I", Cond.fieldLink RX8 94 "SleepPlannerModel" "idles" "I", Cond.fieldLink RX8 97 "SleepPlannerModel" "now" "I", Cond.fieldLink RX8 100 "SleepPlannerModel" "asleepFrom" "I"]
def wsX8_vote : List Cond := .code yX8_vote cX8_vote 4 (some .int) :: ((wsX8_vote_r1 ++ wsX8_vote_r2) ++ wsX80)
def wsX8_isClock : List Cond := .code yX8_isClock cX8_isClock 2 (some .boolean) :: ([.fieldLink RX8 22 "SleepPlannerModel" "clocks" "I"] ++ wsX80)
def wsX8_addClock_r1 : List Cond := [Cond.fieldLink RX8 22 "SleepPlannerModel" "clocks" "I", Cond.fieldLink RX8 26 "SleepPlannerModel" "parent" "[I", Cond.fieldLink RX8 29 "SleepPlannerModel" "divider" "[I", Cond.fieldLink RX8 32 "SleepPlannerModel" "deepest" "[I", Cond.methodLink RX8 124 yX8_isClock, Cond.instanceMethod yX8_isClock, Cond.selects RX8 yX8_isClock yX8_isClock, Cond.initialized RX8, Cond.code yX8_isClock cX8_isClock 2 (some .boolean), Cond.methodLink RX8 117 yX8_asks, Cond.instanceMethod yX8_asks, Cond.selects RX8 yX8_asks yX8_asks, Cond.code yX8_asks cX8_asks 2 (some .boolean), Cond.fieldLink RX8 84 "SleepPlannerModel" "thrown" "I", Cond.methodLink RX8 113 yX8_in, Cond.static yX8_in, Cond.code yX8_in cX8_in 3 (some .boolean), Cond.methodLink RX8 128 yX8_fails, Cond.instanceMethod yX8_fails, Cond.selects RX8 yX8_fails yX8_fails, Cond.code yX8_fails cX8_fails 2 (some .int), Cond.methodLink RX8 121 yX8_stirs, Cond.instanceMethod yX8_stirs, Cond.selects RX8 yX8_stirs yX8_stirs]
def wsX8_addClock_r2 : List Cond := [Cond.code yX8_stirs cX8_stirs 1 none, Cond.fieldLink RX8 103 "SleepPlannerModel" "state" "I", Cond.fieldLink RX8 7 "SleepPlannerModel" "power" "[I", Cond.fieldLink RX8 16 "SleepPlannerModel" "latency" "[I", Cond.methodLink RX8 106 yX8_spends, Cond.instanceMethod yX8_spends, Cond.selects RX8 yX8_spends yX8_spends, Cond.code yX8_spends cX8_spends 3 none, Cond.fieldLink RX8 87 "SleepPlannerModel" "spent" "J", Cond.fieldLink RX8 91 "SleepPlannerModel" "pending" "J", Cond.methodLink RX8 110 yX8_wakes, Cond.instanceMethod yX8_wakes, Cond.selects RX8 yX8_wakes yX8_wakes, Cond.code yX8_wakes cX8_wakes 1 none, Cond.fieldLink RX8 60 "SleepPlannerModel" "idle" "[I", Cond.fieldLink RX8 94 "SleepPlannerModel" "idles" "I", Cond.fieldLink RX8 97 "SleepPlannerModel" "now" "I", Cond.fieldLink RX8 100 "SleepPlannerModel" "asleepFrom" "I"]
def wsX8_addClock : List Cond := .code yX8_addClock cX8_addClock 4 (some .int) :: ((wsX8_addClock_r1 ++ wsX8_addClock_r2) ++ wsX80)
def wsX8_use_r1 : List Cond := [Cond.fieldLink RX8 35 "SleepPlannerModel" "uses" "[I", Cond.methodLink RX8 124 yX8_isClock, Cond.instanceMethod yX8_isClock, Cond.selects RX8 yX8_isClock yX8_isClock, Cond.initialized RX8, Cond.code yX8_isClock cX8_isClock 2 (some .boolean), Cond.fieldLink RX8 22 "SleepPlannerModel" "clocks" "I", Cond.methodLink RX8 117 yX8_asks, Cond.instanceMethod yX8_asks, Cond.selects RX8 yX8_asks yX8_asks, Cond.code yX8_asks cX8_asks 2 (some .boolean), Cond.fieldLink RX8 84 "SleepPlannerModel" "thrown" "I", Cond.methodLink RX8 128 yX8_fails, Cond.instanceMethod yX8_fails, Cond.selects RX8 yX8_fails yX8_fails, Cond.code yX8_fails cX8_fails 2 (some .int), Cond.methodLink RX8 121 yX8_stirs, Cond.instanceMethod yX8_stirs, Cond.selects RX8 yX8_stirs yX8_stirs, Cond.code yX8_stirs cX8_stirs 1 none, Cond.fieldLink RX8 103 "SleepPlannerModel" "state" "I", Cond.fieldLink RX8 7 "SleepPlannerModel" "power" "[I", Cond.fieldLink RX8 16 "SleepPlannerModel" "latency" "[I", Cond.methodLink RX8 106 yX8_spends]
def wsX8_use_r2 : List Cond := [Cond.instanceMethod yX8_spends, Cond.selects RX8 yX8_spends yX8_spends, Cond.code yX8_spends cX8_spends 3 none, Cond.fieldLink RX8 87 "SleepPlannerModel" "spent" "J", Cond.fieldLink RX8 91 "SleepPlannerModel" "pending" "J", Cond.methodLink RX8 110 yX8_wakes, Cond.instanceMethod yX8_wakes, Cond.selects RX8 yX8_wakes yX8_wakes, Cond.code yX8_wakes cX8_wakes 1 none, Cond.fieldLink RX8 60 "SleepPlannerModel" "idle" "[I", Cond.fieldLink RX8 94 "SleepPlannerModel" "idles" "I", Cond.fieldLink RX8 97 "SleepPlannerModel" "now" "I", Cond.fieldLink RX8 100 "SleepPlannerModel" "asleepFrom" "I"]
def wsX8_use : List Cond := .code yX8_use cX8_use 2 (some .int) :: ((wsX8_use_r1 ++ wsX8_use_r2) ++ wsX80)
def wsX8_release_r1 : List Cond := [Cond.fieldLink RX8 35 "SleepPlannerModel" "uses" "[I", Cond.methodLink RX8 124 yX8_isClock, Cond.instanceMethod yX8_isClock, Cond.selects RX8 yX8_isClock yX8_isClock, Cond.initialized RX8, Cond.code yX8_isClock cX8_isClock 2 (some .boolean), Cond.fieldLink RX8 22 "SleepPlannerModel" "clocks" "I", Cond.methodLink RX8 117 yX8_asks, Cond.instanceMethod yX8_asks, Cond.selects RX8 yX8_asks yX8_asks, Cond.code yX8_asks cX8_asks 2 (some .boolean), Cond.fieldLink RX8 84 "SleepPlannerModel" "thrown" "I", Cond.methodLink RX8 128 yX8_fails, Cond.instanceMethod yX8_fails, Cond.selects RX8 yX8_fails yX8_fails, Cond.code yX8_fails cX8_fails 2 (some .int), Cond.methodLink RX8 121 yX8_stirs, Cond.instanceMethod yX8_stirs, Cond.selects RX8 yX8_stirs yX8_stirs, Cond.code yX8_stirs cX8_stirs 1 none, Cond.fieldLink RX8 103 "SleepPlannerModel" "state" "I", Cond.fieldLink RX8 7 "SleepPlannerModel" "power" "[I", Cond.fieldLink RX8 16 "SleepPlannerModel" "latency" "[I", Cond.methodLink RX8 106 yX8_spends]
def wsX8_release_r2 : List Cond := [Cond.instanceMethod yX8_spends, Cond.selects RX8 yX8_spends yX8_spends, Cond.code yX8_spends cX8_spends 3 none, Cond.fieldLink RX8 87 "SleepPlannerModel" "spent" "J", Cond.fieldLink RX8 91 "SleepPlannerModel" "pending" "J", Cond.methodLink RX8 110 yX8_wakes, Cond.instanceMethod yX8_wakes, Cond.selects RX8 yX8_wakes yX8_wakes, Cond.code yX8_wakes cX8_wakes 1 none, Cond.fieldLink RX8 60 "SleepPlannerModel" "idle" "[I", Cond.fieldLink RX8 94 "SleepPlannerModel" "idles" "I", Cond.fieldLink RX8 97 "SleepPlannerModel" "now" "I", Cond.fieldLink RX8 100 "SleepPlannerModel" "asleepFrom" "I"]
def wsX8_release : List Cond := .code yX8_release cX8_release 2 (some .int) :: ((wsX8_release_r1 ++ wsX8_release_r2) ++ wsX80)
def wsX8_findsRunning : List Cond := .code yX8_findsRunning cX8_findsRunning 2 none :: ([.fieldLink RX8 38 "SleepPlannerModel" "isRunning" "[Z", .fieldLink RX8 35 "SleepPlannerModel" "uses" "[I", .fieldLink RX8 22 "SleepPlannerModel" "clocks" "I", .fieldLink RX8 26 "SleepPlannerModel" "parent" "[I"] ++ wsX80)
def wsX8_runs : List Cond := .code yX8_runs cX8_runs 2 (some .boolean) :: ([.fieldLink RX8 38 "SleepPlannerModel" "isRunning" "[Z", .methodLink RX8 124 yX8_isClock, .instanceMethod yX8_isClock, .selects RX8 yX8_isClock yX8_isClock, .initialized RX8, .code yX8_isClock cX8_isClock 2 (some .boolean), .fieldLink RX8 22 "SleepPlannerModel" "clocks" "I", .methodLink RX8 117 yX8_asks, .instanceMethod yX8_asks, .selects RX8 yX8_asks yX8_asks, .code yX8_asks cX8_asks 2 (some .boolean), .fieldLink RX8 84 "SleepPlannerModel" "thrown" "I", .methodLink RX8 132 yX8_findsRunning, .instanceMethod yX8_findsRunning, .selects RX8 yX8_findsRunning yX8_findsRunning, .code yX8_findsRunning cX8_findsRunning 2 none, .fieldLink RX8 35 "SleepPlannerModel" "uses" "[I", .fieldLink RX8 26 "SleepPlannerModel" "parent" "[I"] ++ wsX80)
def wsX8_frequency : List Cond := .code yX8_frequency cX8_frequency 4 (some .int) :: ([.fieldLink RX8 29 "SleepPlannerModel" "divider" "[I", .fieldLink RX8 26 "SleepPlannerModel" "parent" "[I", .methodLink RX8 124 yX8_isClock, .instanceMethod yX8_isClock, .selects RX8 yX8_isClock yX8_isClock, .initialized RX8, .code yX8_isClock cX8_isClock 2 (some .boolean), .fieldLink RX8 22 "SleepPlannerModel" "clocks" "I", .methodLink RX8 117 yX8_asks, .instanceMethod yX8_asks, .selects RX8 yX8_asks yX8_asks, .code yX8_asks cX8_asks 2 (some .boolean), .fieldLink RX8 84 "SleepPlannerModel" "thrown" "I"] ++ wsX80)
def wsX8_deepestNow : List Cond := .code yX8_deepestNow cX8_deepestNow 3 (some .int) :: ([.fieldLink RX8 19 "SleepPlannerModel" "votes" "[I", .fieldLink RX8 22 "SleepPlannerModel" "clocks" "I", .fieldLink RX8 38 "SleepPlannerModel" "isRunning" "[Z", .fieldLink RX8 32 "SleepPlannerModel" "deepest" "[I", .methodLink RX8 132 yX8_findsRunning, .instanceMethod yX8_findsRunning, .selects RX8 yX8_findsRunning yX8_findsRunning, .initialized RX8, .code yX8_findsRunning cX8_findsRunning 2 none, .fieldLink RX8 35 "SleepPlannerModel" "uses" "[I", .fieldLink RX8 26 "SleepPlannerModel" "parent" "[I"] ++ wsX80)
def wsX8_depth : List Cond := .code yX8_depth cX8_depth 1 (some .int) :: ([.fieldLink RX8 84 "SleepPlannerModel" "thrown" "I", .methodLink RX8 135 yX8_deepestNow, .instanceMethod yX8_deepestNow, .selects RX8 yX8_deepestNow yX8_deepestNow, .initialized RX8, .code yX8_deepestNow cX8_deepestNow 3 (some .int), .fieldLink RX8 19 "SleepPlannerModel" "votes" "[I", .fieldLink RX8 22 "SleepPlannerModel" "clocks" "I", .fieldLink RX8 38 "SleepPlannerModel" "isRunning" "[Z", .fieldLink RX8 32 "SleepPlannerModel" "deepest" "[I", .methodLink RX8 132 yX8_findsRunning, .instanceMethod yX8_findsRunning, .selects RX8 yX8_findsRunning yX8_findsRunning, .code yX8_findsRunning cX8_findsRunning 2 none, .fieldLink RX8 35 "SleepPlannerModel" "uses" "[I", .fieldLink RX8 26 "SleepPlannerModel" "parent" "[I"] ++ wsX80)
def wsX8_idleCost : List Cond := .code yX8_idleCost cX8_idleCost 3 (some .long) :: ([.fieldLink RX8 7 "SleepPlannerModel" "power" "[I", .fieldLink RX8 13 "SleepPlannerModel" "cost" "[I", .fieldLink RX8 16 "SleepPlannerModel" "latency" "[I"] ++ wsX80)
def wsX8_evenAt : List Cond := .code yX8_evenAt cX8_evenAt 3 (some .int) :: ([.fieldLink RX8 16 "SleepPlannerModel" "latency" "[I", .methodLink RX8 139 yX8_idleCost, .instanceMethod yX8_idleCost, .selects RX8 yX8_idleCost yX8_idleCost, .initialized RX8, .code yX8_idleCost cX8_idleCost 3 (some .long), .fieldLink RX8 7 "SleepPlannerModel" "power" "[I", .fieldLink RX8 13 "SleepPlannerModel" "cost" "[I"] ++ wsX80)
def wsX8_breakEven : List Cond := .code yX8_breakEven cX8_breakEven 2 (some .int) :: ([.methodLink RX8 113 yX8_in, .static yX8_in, .initialized RX8, .code yX8_in cX8_in 3 (some .boolean), .methodLink RX8 117 yX8_asks, .instanceMethod yX8_asks, .selects RX8 yX8_asks yX8_asks, .code yX8_asks cX8_asks 2 (some .boolean), .fieldLink RX8 84 "SleepPlannerModel" "thrown" "I", .methodLink RX8 143 yX8_evenAt, .instanceMethod yX8_evenAt, .selects RX8 yX8_evenAt yX8_evenAt, .code yX8_evenAt cX8_evenAt 3 (some .int), .fieldLink RX8 16 "SleepPlannerModel" "latency" "[I", .methodLink RX8 139 yX8_idleCost, .instanceMethod yX8_idleCost, .selects RX8 yX8_idleCost yX8_idleCost, .code yX8_idleCost cX8_idleCost 3 (some .long), .fieldLink RX8 7 "SleepPlannerModel" "power" "[I", .fieldLink RX8 13 "SleepPlannerModel" "cost" "[I"] ++ wsX80)
def wsX8_schedule_r1 : List Cond := [Cond.fieldLink RX8 97 "SleepPlannerModel" "now" "I", Cond.fieldLink RX8 146 "SleepPlannerModel" "timers" "I", Cond.fieldLink RX8 42 "SleepPlannerModel" "due" "[I", Cond.fieldLink RX8 45 "SleepPlannerModel" "latest" "[I", Cond.fieldLink RX8 48 "SleepPlannerModel" "work" "[I", Cond.methodLink RX8 113 yX8_in, Cond.static yX8_in, Cond.initialized RX8, Cond.code yX8_in cX8_in 3 (some .boolean), Cond.methodLink RX8 117 yX8_asks, Cond.instanceMethod yX8_asks, Cond.selects RX8 yX8_asks yX8_asks, Cond.code yX8_asks cX8_asks 2 (some .boolean), Cond.fieldLink RX8 84 "SleepPlannerModel" "thrown" "I", Cond.methodLink RX8 128 yX8_fails, Cond.instanceMethod yX8_fails, Cond.selects RX8 yX8_fails yX8_fails, Cond.code yX8_fails cX8_fails 2 (some .int), Cond.methodLink RX8 121 yX8_stirs, Cond.instanceMethod yX8_stirs, Cond.selects RX8 yX8_stirs yX8_stirs, Cond.code yX8_stirs cX8_stirs 1 none, Cond.fieldLink RX8 103 "SleepPlannerModel" "state" "I", Cond.fieldLink RX8 7 "SleepPlannerModel" "power" "[I"]
def wsX8_schedule_r2 : List Cond := [Cond.fieldLink RX8 16 "SleepPlannerModel" "latency" "[I", Cond.methodLink RX8 106 yX8_spends, Cond.instanceMethod yX8_spends, Cond.selects RX8 yX8_spends yX8_spends, Cond.code yX8_spends cX8_spends 3 none, Cond.fieldLink RX8 87 "SleepPlannerModel" "spent" "J", Cond.fieldLink RX8 91 "SleepPlannerModel" "pending" "J", Cond.methodLink RX8 110 yX8_wakes, Cond.instanceMethod yX8_wakes, Cond.selects RX8 yX8_wakes yX8_wakes, Cond.code yX8_wakes cX8_wakes 1 none, Cond.fieldLink RX8 60 "SleepPlannerModel" "idle" "[I", Cond.fieldLink RX8 94 "SleepPlannerModel" "idles" "I", Cond.fieldLink RX8 100 "SleepPlannerModel" "asleepFrom" "I"]
def wsX8_schedule : List Cond := .code yX8_schedule cX8_schedule 4 (some .int) :: ((wsX8_schedule_r1 ++ wsX8_schedule_r2) ++ wsX80)
def wsX8_addEvent : List Cond := .code yX8_addEvent cX8_addEvent 3 (some .int) :: ([.fieldLink RX8 97 "SleepPlannerModel" "now" "I", .fieldLink RX8 149 "SleepPlannerModel" "events" "I", .fieldLink RX8 51 "SleepPlannerModel" "tick" "[I", .fieldLink RX8 54 "SleepPlannerModel" "load" "[I", .methodLink RX8 113 yX8_in, .static yX8_in, .initialized RX8, .code yX8_in cX8_in 3 (some .boolean), .methodLink RX8 117 yX8_asks, .instanceMethod yX8_asks, .selects RX8 yX8_asks yX8_asks, .code yX8_asks cX8_asks 2 (some .boolean), .fieldLink RX8 84 "SleepPlannerModel" "thrown" "I", .methodLink RX8 128 yX8_fails, .instanceMethod yX8_fails, .selects RX8 yX8_fails yX8_fails, .code yX8_fails cX8_fails 2 (some .int)] ++ wsX80)
def wsX8_setRule_r1 : List Cond := [Cond.fieldLink RX8 57 "SleepPlannerModel" "rule" "I", Cond.methodLink RX8 113 yX8_in, Cond.static yX8_in, Cond.initialized RX8, Cond.code yX8_in cX8_in 3 (some .boolean), Cond.methodLink RX8 117 yX8_asks, Cond.instanceMethod yX8_asks, Cond.selects RX8 yX8_asks yX8_asks, Cond.code yX8_asks cX8_asks 2 (some .boolean), Cond.fieldLink RX8 84 "SleepPlannerModel" "thrown" "I", Cond.methodLink RX8 121 yX8_stirs, Cond.instanceMethod yX8_stirs, Cond.selects RX8 yX8_stirs yX8_stirs, Cond.code yX8_stirs cX8_stirs 1 none, Cond.fieldLink RX8 103 "SleepPlannerModel" "state" "I", Cond.fieldLink RX8 7 "SleepPlannerModel" "power" "[I", Cond.fieldLink RX8 16 "SleepPlannerModel" "latency" "[I", Cond.methodLink RX8 106 yX8_spends, Cond.instanceMethod yX8_spends, Cond.selects RX8 yX8_spends yX8_spends, Cond.code yX8_spends cX8_spends 3 none, Cond.fieldLink RX8 87 "SleepPlannerModel" "spent" "J", Cond.fieldLink RX8 91 "SleepPlannerModel" "pending" "J", Cond.methodLink RX8 110 yX8_wakes]
def wsX8_setRule_r2 : List Cond := [Cond.instanceMethod yX8_wakes, Cond.selects RX8 yX8_wakes yX8_wakes, Cond.code yX8_wakes cX8_wakes 1 none, Cond.fieldLink RX8 60 "SleepPlannerModel" "idle" "[I", Cond.fieldLink RX8 94 "SleepPlannerModel" "idles" "I", Cond.fieldLink RX8 97 "SleepPlannerModel" "now" "I", Cond.fieldLink RX8 100 "SleepPlannerModel" "asleepFrom" "I"]
def wsX8_setRule : List Cond := .code yX8_setRule cX8_setRule 3 (some .int) :: ((wsX8_setRule_r1 ++ wsX8_setRule_r2) ++ wsX80)
def wsX8_timers : List Cond := .code yX8_timers cX8_timers 1 (some .int) :: ([.fieldLink RX8 84 "SleepPlannerModel" "thrown" "I", .fieldLink RX8 146 "SleepPlannerModel" "timers" "I"] ++ wsX80)
def wsX8_next : List Cond := .code yX8_next cX8_next 3 (some .int) :: ([.constant RX8 152 (1000000000), .fieldLink RX8 146 "SleepPlannerModel" "timers" "I", .fieldLink RX8 45 "SleepPlannerModel" "latest" "[I"] ++ wsX80)
def wsX8_nextWakeup : List Cond := .code yX8_nextWakeup cX8_nextWakeup 1 (some .int) :: ([.fieldLink RX8 84 "SleepPlannerModel" "thrown" "I", .fieldLink RX8 146 "SleepPlannerModel" "timers" "I", .methodLink RX8 153 yX8_next, .instanceMethod yX8_next, .selects RX8 yX8_next yX8_next, .initialized RX8, .code yX8_next cX8_next 3 (some .int), .constant RX8 152 (1000000000), .fieldLink RX8 45 "SleepPlannerModel" "latest" "[I"] ++ wsX80)
def wsX8_isEvent : List Cond := .code yX8_isEvent cX8_isEvent 3 (some .boolean) :: ([.fieldLink RX8 149 "SleepPlannerModel" "events" "I", .fieldLink RX8 51 "SleepPlannerModel" "tick" "[I", .fieldLink RX8 97 "SleepPlannerModel" "now" "I"] ++ wsX80)
def wsX8_mayWake_r1 : List Cond := [Cond.fieldLink RX8 103 "SleepPlannerModel" "state" "I", Cond.fieldLink RX8 97 "SleepPlannerModel" "now" "I", Cond.fieldLink RX8 7 "SleepPlannerModel" "power" "[I", Cond.fieldLink RX8 16 "SleepPlannerModel" "latency" "[I", Cond.fieldLink RX8 160 "SleepPlannerModel" "lateness" "I", Cond.methodLink RX8 153 yX8_next, Cond.instanceMethod yX8_next, Cond.selects RX8 yX8_next yX8_next, Cond.initialized RX8, Cond.code yX8_next cX8_next 3 (some .int), Cond.constant RX8 152 (1000000000), Cond.fieldLink RX8 146 "SleepPlannerModel" "timers" "I", Cond.fieldLink RX8 45 "SleepPlannerModel" "latest" "[I", Cond.methodLink RX8 110 yX8_wakes, Cond.instanceMethod yX8_wakes, Cond.selects RX8 yX8_wakes yX8_wakes, Cond.code yX8_wakes cX8_wakes 1 none, Cond.fieldLink RX8 60 "SleepPlannerModel" "idle" "[I", Cond.fieldLink RX8 94 "SleepPlannerModel" "idles" "I", Cond.fieldLink RX8 100 "SleepPlannerModel" "asleepFrom" "I", Cond.methodLink RX8 156 yX8_isEvent, Cond.instanceMethod yX8_isEvent, Cond.selects RX8 yX8_isEvent yX8_isEvent, Cond.code yX8_isEvent cX8_isEvent 3 (some .boolean)]
def wsX8_mayWake_r2 : List Cond := [Cond.fieldLink RX8 149 "SleepPlannerModel" "events" "I", Cond.fieldLink RX8 51 "SleepPlannerModel" "tick" "[I", Cond.methodLink RX8 106 yX8_spends, Cond.instanceMethod yX8_spends, Cond.selects RX8 yX8_spends yX8_spends, Cond.code yX8_spends cX8_spends 3 none, Cond.fieldLink RX8 87 "SleepPlannerModel" "spent" "J", Cond.fieldLink RX8 91 "SleepPlannerModel" "pending" "J"]
def wsX8_mayWake : List Cond := .code yX8_mayWake cX8_mayWake 1 none :: ((wsX8_mayWake_r1 ++ wsX8_mayWake_r2) ++ wsX80)
def wsX8_serves : List Cond := .code yX8_serves cX8_serves 2 none :: ([.fieldLink RX8 163 "SleepPlannerModel" "served" "I", .fieldLink RX8 7 "SleepPlannerModel" "power" "[I", .methodLink RX8 106 yX8_spends, .instanceMethod yX8_spends, .selects RX8 yX8_spends yX8_spends, .initialized RX8, .code yX8_spends cX8_spends 3 none, .fieldLink RX8 87 "SleepPlannerModel" "spent" "J", .fieldLink RX8 91 "SleepPlannerModel" "pending" "J"] ++ wsX80)
def wsX8_servesAll : List Cond := .code yX8_servesAll cX8_servesAll 3 none :: ([.fieldLink RX8 149 "SleepPlannerModel" "events" "I", .fieldLink RX8 51 "SleepPlannerModel" "tick" "[I", .fieldLink RX8 97 "SleepPlannerModel" "now" "I", .fieldLink RX8 54 "SleepPlannerModel" "load" "[I", .fieldLink RX8 146 "SleepPlannerModel" "timers" "I", .fieldLink RX8 42 "SleepPlannerModel" "due" "[I", .fieldLink RX8 48 "SleepPlannerModel" "work" "[I", .fieldLink RX8 45 "SleepPlannerModel" "latest" "[I", .methodLink RX8 166 yX8_serves, .instanceMethod yX8_serves, .selects RX8 yX8_serves yX8_serves, .initialized RX8, .code yX8_serves cX8_serves 2 none, .fieldLink RX8 163 "SleepPlannerModel" "served" "I", .fieldLink RX8 7 "SleepPlannerModel" "power" "[I", .methodLink RX8 106 yX8_spends, .instanceMethod yX8_spends, .selects RX8 yX8_spends yX8_spends, .code yX8_spends cX8_spends 3 none, .fieldLink RX8 87 "SleepPlannerModel" "spent" "J", .fieldLink RX8 91 "SleepPlannerModel" "pending" "J"] ++ wsX80)
def wsX8_mean : List Cond := .code yX8_mean cX8_mean 4 (some .int) :: ([.fieldLink RX8 94 "SleepPlannerModel" "idles" "I", .fieldLink RX8 60 "SleepPlannerModel" "idle" "[I", .constant RX8 152 (1000000000)] ++ wsX80)
def wsX8_chooses_r1 : List Cond := [Cond.fieldLink RX8 16 "SleepPlannerModel" "latency" "[I", Cond.methodLink RX8 135 yX8_deepestNow, Cond.instanceMethod yX8_deepestNow, Cond.selects RX8 yX8_deepestNow yX8_deepestNow, Cond.initialized RX8, Cond.code yX8_deepestNow cX8_deepestNow 3 (some .int), Cond.fieldLink RX8 19 "SleepPlannerModel" "votes" "[I", Cond.fieldLink RX8 22 "SleepPlannerModel" "clocks" "I", Cond.fieldLink RX8 38 "SleepPlannerModel" "isRunning" "[Z", Cond.fieldLink RX8 32 "SleepPlannerModel" "deepest" "[I", Cond.methodLink RX8 132 yX8_findsRunning, Cond.instanceMethod yX8_findsRunning, Cond.selects RX8 yX8_findsRunning yX8_findsRunning, Cond.code yX8_findsRunning cX8_findsRunning 2 none, Cond.fieldLink RX8 35 "SleepPlannerModel" "uses" "[I", Cond.fieldLink RX8 26 "SleepPlannerModel" "parent" "[I", Cond.methodLink RX8 143 yX8_evenAt, Cond.instanceMethod yX8_evenAt, Cond.selects RX8 yX8_evenAt yX8_evenAt, Cond.code yX8_evenAt cX8_evenAt 3 (some .int), Cond.methodLink RX8 139 yX8_idleCost, Cond.instanceMethod yX8_idleCost, Cond.selects RX8 yX8_idleCost yX8_idleCost, Cond.code yX8_idleCost cX8_idleCost 3 (some .long)]
def wsX8_chooses_r2 : List Cond := [Cond.fieldLink RX8 7 "SleepPlannerModel" "power" "[I", Cond.fieldLink RX8 13 "SleepPlannerModel" "cost" "[I", Cond.methodLink RX8 170 yX8_mean, Cond.instanceMethod yX8_mean, Cond.selects RX8 yX8_mean yX8_mean, Cond.code yX8_mean cX8_mean 4 (some .int), Cond.fieldLink RX8 94 "SleepPlannerModel" "idles" "I", Cond.fieldLink RX8 60 "SleepPlannerModel" "idle" "[I", Cond.constant RX8 152 (1000000000)]
def wsX8_chooses : List Cond := .code yX8_chooses cX8_chooses 6 (some .int) :: ((wsX8_chooses_r1 ++ wsX8_chooses_r2) ++ wsX80)
def wsX8_governs_r1 : List Cond := [Cond.fieldLink RX8 57 "SleepPlannerModel" "rule" "I", Cond.fieldLink RX8 97 "SleepPlannerModel" "now" "I", Cond.fieldLink RX8 13 "SleepPlannerModel" "cost" "[I", Cond.fieldLink RX8 103 "SleepPlannerModel" "state" "I", Cond.fieldLink RX8 100 "SleepPlannerModel" "asleepFrom" "I", Cond.fieldLink RX8 177 "SleepPlannerModel" "sleeps" "I", Cond.methodLink RX8 153 yX8_next, Cond.instanceMethod yX8_next, Cond.selects RX8 yX8_next yX8_next, Cond.initialized RX8, Cond.code yX8_next cX8_next 3 (some .int), Cond.constant RX8 152 (1000000000), Cond.fieldLink RX8 146 "SleepPlannerModel" "timers" "I", Cond.fieldLink RX8 45 "SleepPlannerModel" "latest" "[I", Cond.methodLink RX8 173 yX8_chooses, Cond.instanceMethod yX8_chooses, Cond.selects RX8 yX8_chooses yX8_chooses, Cond.code yX8_chooses cX8_chooses 6 (some .int), Cond.fieldLink RX8 16 "SleepPlannerModel" "latency" "[I", Cond.methodLink RX8 135 yX8_deepestNow, Cond.instanceMethod yX8_deepestNow, Cond.selects RX8 yX8_deepestNow yX8_deepestNow, Cond.code yX8_deepestNow cX8_deepestNow 3 (some .int), Cond.fieldLink RX8 19 "SleepPlannerModel" "votes" "[I"]
def wsX8_governs_r2 : List Cond := [Cond.fieldLink RX8 22 "SleepPlannerModel" "clocks" "I", Cond.fieldLink RX8 38 "SleepPlannerModel" "isRunning" "[Z", Cond.fieldLink RX8 32 "SleepPlannerModel" "deepest" "[I", Cond.methodLink RX8 132 yX8_findsRunning, Cond.instanceMethod yX8_findsRunning, Cond.selects RX8 yX8_findsRunning yX8_findsRunning, Cond.code yX8_findsRunning cX8_findsRunning 2 none, Cond.fieldLink RX8 35 "SleepPlannerModel" "uses" "[I", Cond.fieldLink RX8 26 "SleepPlannerModel" "parent" "[I", Cond.methodLink RX8 143 yX8_evenAt, Cond.instanceMethod yX8_evenAt, Cond.selects RX8 yX8_evenAt yX8_evenAt, Cond.code yX8_evenAt cX8_evenAt 3 (some .int), Cond.methodLink RX8 139 yX8_idleCost, Cond.instanceMethod yX8_idleCost, Cond.selects RX8 yX8_idleCost yX8_idleCost, Cond.code yX8_idleCost cX8_idleCost 3 (some .long), Cond.fieldLink RX8 7 "SleepPlannerModel" "power" "[I", Cond.methodLink RX8 170 yX8_mean, Cond.instanceMethod yX8_mean, Cond.selects RX8 yX8_mean yX8_mean, Cond.code yX8_mean cX8_mean 4 (some .int), Cond.fieldLink RX8 94 "SleepPlannerModel" "idles" "I", Cond.fieldLink RX8 60 "SleepPlannerModel" "idle" "[I"]
def wsX8_governs_r3 : List Cond := [Cond.methodLink RX8 106 yX8_spends, Cond.instanceMethod yX8_spends, Cond.selects RX8 yX8_spends yX8_spends, Cond.code yX8_spends cX8_spends 3 none, Cond.fieldLink RX8 87 "SleepPlannerModel" "spent" "J", Cond.fieldLink RX8 91 "SleepPlannerModel" "pending" "J"]
def wsX8_governs : List Cond := .code yX8_governs cX8_governs 2 none :: ((wsX8_governs_r1 ++ (wsX8_governs_r2 ++ wsX8_governs_r3)) ++ wsX80)
def wsX8_down : List Cond := .code yX8_down cX8_down 2 (some .int) :: ([])
def wsX8_battery : List Cond := .code yX8_battery cX8_battery 4 none :: ([.fieldLink RX8 70 "SleepPlannerModel" "available" "I", .fieldLink RX8 66 "SleepPlannerModel" "harvest" "[I", .fieldLink RX8 97 "SleepPlannerModel" "now" "I", .fieldLink RX8 91 "SleepPlannerModel" "pending" "J", .fieldLink RX8 180 "SleepPlannerModel" "shortTicks" "I", .constantLong RX8 183 (50000), .constant RX8 69 (50000), .fieldLink RX8 74 "SleepPlannerModel" "bound" "I", .constant RX8 73 (100000), .methodLink RX8 185 yX8_down, .static yX8_down, .initialized RX8, .code yX8_down cX8_down 2 (some .int)] ++ wsX80)
def wsX8_playsOne_r1 : List Cond := [Cond.fieldLink RX8 103 "SleepPlannerModel" "state" "I", Cond.fieldLink RX8 97 "SleepPlannerModel" "now" "I", Cond.fieldLink RX8 16 "SleepPlannerModel" "latency" "[I", Cond.fieldLink RX8 7 "SleepPlannerModel" "power" "[I", Cond.fieldLink RX8 63 "SleepPlannerModel" "ticksIn" "[I", Cond.methodLink RX8 188 yX8_mayWake, Cond.instanceMethod yX8_mayWake, Cond.selects RX8 yX8_mayWake yX8_mayWake, Cond.initialized RX8, Cond.code yX8_mayWake cX8_mayWake 1 none, Cond.fieldLink RX8 160 "SleepPlannerModel" "lateness" "I", Cond.methodLink RX8 153 yX8_next, Cond.instanceMethod yX8_next, Cond.selects RX8 yX8_next yX8_next, Cond.code yX8_next cX8_next 3 (some .int), Cond.constant RX8 152 (1000000000), Cond.fieldLink RX8 146 "SleepPlannerModel" "timers" "I", Cond.fieldLink RX8 45 "SleepPlannerModel" "latest" "[I", Cond.methodLink RX8 110 yX8_wakes, Cond.instanceMethod yX8_wakes, Cond.selects RX8 yX8_wakes yX8_wakes, Cond.code yX8_wakes cX8_wakes 1 none, Cond.fieldLink RX8 60 "SleepPlannerModel" "idle" "[I", Cond.fieldLink RX8 94 "SleepPlannerModel" "idles" "I"]
def wsX8_playsOne_r2 : List Cond := [Cond.fieldLink RX8 100 "SleepPlannerModel" "asleepFrom" "I", Cond.methodLink RX8 156 yX8_isEvent, Cond.instanceMethod yX8_isEvent, Cond.selects RX8 yX8_isEvent yX8_isEvent, Cond.code yX8_isEvent cX8_isEvent 3 (some .boolean), Cond.fieldLink RX8 149 "SleepPlannerModel" "events" "I", Cond.fieldLink RX8 51 "SleepPlannerModel" "tick" "[I", Cond.methodLink RX8 106 yX8_spends, Cond.instanceMethod yX8_spends, Cond.selects RX8 yX8_spends yX8_spends, Cond.code yX8_spends cX8_spends 3 none, Cond.fieldLink RX8 87 "SleepPlannerModel" "spent" "J", Cond.fieldLink RX8 91 "SleepPlannerModel" "pending" "J", Cond.methodLink RX8 191 yX8_servesAll, Cond.instanceMethod yX8_servesAll, Cond.selects RX8 yX8_servesAll yX8_servesAll, Cond.code yX8_servesAll cX8_servesAll 3 none, Cond.fieldLink RX8 54 "SleepPlannerModel" "load" "[I", Cond.fieldLink RX8 42 "SleepPlannerModel" "due" "[I", Cond.fieldLink RX8 48 "SleepPlannerModel" "work" "[I", Cond.methodLink RX8 166 yX8_serves, Cond.instanceMethod yX8_serves, Cond.selects RX8 yX8_serves yX8_serves, Cond.code yX8_serves cX8_serves 2 none]
def wsX8_playsOne_r3 : List Cond := [Cond.fieldLink RX8 163 "SleepPlannerModel" "served" "I", Cond.methodLink RX8 194 yX8_governs, Cond.instanceMethod yX8_governs, Cond.selects RX8 yX8_governs yX8_governs, Cond.code yX8_governs cX8_governs 2 none, Cond.fieldLink RX8 57 "SleepPlannerModel" "rule" "I", Cond.fieldLink RX8 13 "SleepPlannerModel" "cost" "[I", Cond.fieldLink RX8 177 "SleepPlannerModel" "sleeps" "I", Cond.methodLink RX8 173 yX8_chooses, Cond.instanceMethod yX8_chooses, Cond.selects RX8 yX8_chooses yX8_chooses, Cond.code yX8_chooses cX8_chooses 6 (some .int), Cond.methodLink RX8 135 yX8_deepestNow, Cond.instanceMethod yX8_deepestNow, Cond.selects RX8 yX8_deepestNow yX8_deepestNow, Cond.code yX8_deepestNow cX8_deepestNow 3 (some .int), Cond.fieldLink RX8 19 "SleepPlannerModel" "votes" "[I", Cond.fieldLink RX8 22 "SleepPlannerModel" "clocks" "I", Cond.fieldLink RX8 38 "SleepPlannerModel" "isRunning" "[Z", Cond.fieldLink RX8 32 "SleepPlannerModel" "deepest" "[I", Cond.methodLink RX8 132 yX8_findsRunning, Cond.instanceMethod yX8_findsRunning, Cond.selects RX8 yX8_findsRunning yX8_findsRunning, Cond.code yX8_findsRunning cX8_findsRunning 2 none]
def wsX8_playsOne_r4 : List Cond := [Cond.fieldLink RX8 35 "SleepPlannerModel" "uses" "[I", Cond.fieldLink RX8 26 "SleepPlannerModel" "parent" "[I", Cond.methodLink RX8 143 yX8_evenAt, Cond.instanceMethod yX8_evenAt, Cond.selects RX8 yX8_evenAt yX8_evenAt, Cond.code yX8_evenAt cX8_evenAt 3 (some .int), Cond.methodLink RX8 139 yX8_idleCost, Cond.instanceMethod yX8_idleCost, Cond.selects RX8 yX8_idleCost yX8_idleCost, Cond.code yX8_idleCost cX8_idleCost 3 (some .long), Cond.methodLink RX8 170 yX8_mean, Cond.instanceMethod yX8_mean, Cond.selects RX8 yX8_mean yX8_mean, Cond.code yX8_mean cX8_mean 4 (some .int), Cond.methodLink RX8 197 yX8_battery, Cond.instanceMethod yX8_battery, Cond.selects RX8 yX8_battery yX8_battery, Cond.code yX8_battery cX8_battery 4 none, Cond.fieldLink RX8 70 "SleepPlannerModel" "available" "I", Cond.fieldLink RX8 66 "SleepPlannerModel" "harvest" "[I", Cond.fieldLink RX8 180 "SleepPlannerModel" "shortTicks" "I", Cond.constantLong RX8 183 (50000), Cond.constant RX8 69 (50000), Cond.fieldLink RX8 74 "SleepPlannerModel" "bound" "I"]
def wsX8_playsOne_r5 : List Cond := [Cond.constant RX8 73 (100000), Cond.methodLink RX8 185 yX8_down, Cond.static yX8_down, Cond.code yX8_down cX8_down 2 (some .int)]
def wsX8_playsOne : List Cond := .code yX8_playsOne cX8_playsOne 1 none :: ((wsX8_playsOne_r1 ++ (wsX8_playsOne_r2 ++ (wsX8_playsOne_r3 ++ (wsX8_playsOne_r4 ++ wsX8_playsOne_r5)))) ++ wsX80)
def wsX8_play_r1 : List Cond := [Cond.fieldLink RX8 97 "SleepPlannerModel" "now" "I", Cond.methodLink RX8 113 yX8_in, Cond.static yX8_in, Cond.initialized RX8, Cond.code yX8_in cX8_in 3 (some .boolean), Cond.methodLink RX8 117 yX8_asks, Cond.instanceMethod yX8_asks, Cond.selects RX8 yX8_asks yX8_asks, Cond.code yX8_asks cX8_asks 2 (some .boolean), Cond.fieldLink RX8 84 "SleepPlannerModel" "thrown" "I", Cond.methodLink RX8 200 yX8_playsOne, Cond.instanceMethod yX8_playsOne, Cond.selects RX8 yX8_playsOne yX8_playsOne, Cond.code yX8_playsOne cX8_playsOne 1 none, Cond.fieldLink RX8 103 "SleepPlannerModel" "state" "I", Cond.fieldLink RX8 16 "SleepPlannerModel" "latency" "[I", Cond.fieldLink RX8 7 "SleepPlannerModel" "power" "[I", Cond.fieldLink RX8 63 "SleepPlannerModel" "ticksIn" "[I", Cond.methodLink RX8 188 yX8_mayWake, Cond.instanceMethod yX8_mayWake, Cond.selects RX8 yX8_mayWake yX8_mayWake, Cond.code yX8_mayWake cX8_mayWake 1 none, Cond.fieldLink RX8 160 "SleepPlannerModel" "lateness" "I", Cond.methodLink RX8 153 yX8_next]
def wsX8_play_r2 : List Cond := [Cond.instanceMethod yX8_next, Cond.selects RX8 yX8_next yX8_next, Cond.code yX8_next cX8_next 3 (some .int), Cond.constant RX8 152 (1000000000), Cond.fieldLink RX8 146 "SleepPlannerModel" "timers" "I", Cond.fieldLink RX8 45 "SleepPlannerModel" "latest" "[I", Cond.methodLink RX8 110 yX8_wakes, Cond.instanceMethod yX8_wakes, Cond.selects RX8 yX8_wakes yX8_wakes, Cond.code yX8_wakes cX8_wakes 1 none, Cond.fieldLink RX8 60 "SleepPlannerModel" "idle" "[I", Cond.fieldLink RX8 94 "SleepPlannerModel" "idles" "I", Cond.fieldLink RX8 100 "SleepPlannerModel" "asleepFrom" "I", Cond.methodLink RX8 156 yX8_isEvent, Cond.instanceMethod yX8_isEvent, Cond.selects RX8 yX8_isEvent yX8_isEvent, Cond.code yX8_isEvent cX8_isEvent 3 (some .boolean), Cond.fieldLink RX8 149 "SleepPlannerModel" "events" "I", Cond.fieldLink RX8 51 "SleepPlannerModel" "tick" "[I", Cond.methodLink RX8 106 yX8_spends, Cond.instanceMethod yX8_spends, Cond.selects RX8 yX8_spends yX8_spends, Cond.code yX8_spends cX8_spends 3 none, Cond.fieldLink RX8 87 "SleepPlannerModel" "spent" "J"]
def wsX8_play_r3 : List Cond := [Cond.fieldLink RX8 91 "SleepPlannerModel" "pending" "J", Cond.methodLink RX8 191 yX8_servesAll, Cond.instanceMethod yX8_servesAll, Cond.selects RX8 yX8_servesAll yX8_servesAll, Cond.code yX8_servesAll cX8_servesAll 3 none, Cond.fieldLink RX8 54 "SleepPlannerModel" "load" "[I", Cond.fieldLink RX8 42 "SleepPlannerModel" "due" "[I", Cond.fieldLink RX8 48 "SleepPlannerModel" "work" "[I", Cond.methodLink RX8 166 yX8_serves, Cond.instanceMethod yX8_serves, Cond.selects RX8 yX8_serves yX8_serves, Cond.code yX8_serves cX8_serves 2 none, Cond.fieldLink RX8 163 "SleepPlannerModel" "served" "I", Cond.methodLink RX8 194 yX8_governs, Cond.instanceMethod yX8_governs, Cond.selects RX8 yX8_governs yX8_governs, Cond.code yX8_governs cX8_governs 2 none, Cond.fieldLink RX8 57 "SleepPlannerModel" "rule" "I", Cond.fieldLink RX8 13 "SleepPlannerModel" "cost" "[I", Cond.fieldLink RX8 177 "SleepPlannerModel" "sleeps" "I", Cond.methodLink RX8 173 yX8_chooses, Cond.instanceMethod yX8_chooses, Cond.selects RX8 yX8_chooses yX8_chooses, Cond.code yX8_chooses cX8_chooses 6 (some .int)]
def wsX8_play_r4 : List Cond := [Cond.methodLink RX8 135 yX8_deepestNow, Cond.instanceMethod yX8_deepestNow, Cond.selects RX8 yX8_deepestNow yX8_deepestNow, Cond.code yX8_deepestNow cX8_deepestNow 3 (some .int), Cond.fieldLink RX8 19 "SleepPlannerModel" "votes" "[I", Cond.fieldLink RX8 22 "SleepPlannerModel" "clocks" "I", Cond.fieldLink RX8 38 "SleepPlannerModel" "isRunning" "[Z", Cond.fieldLink RX8 32 "SleepPlannerModel" "deepest" "[I", Cond.methodLink RX8 132 yX8_findsRunning, Cond.instanceMethod yX8_findsRunning, Cond.selects RX8 yX8_findsRunning yX8_findsRunning, Cond.code yX8_findsRunning cX8_findsRunning 2 none, Cond.fieldLink RX8 35 "SleepPlannerModel" "uses" "[I", Cond.fieldLink RX8 26 "SleepPlannerModel" "parent" "[I", Cond.methodLink RX8 143 yX8_evenAt, Cond.instanceMethod yX8_evenAt, Cond.selects RX8 yX8_evenAt yX8_evenAt, Cond.code yX8_evenAt cX8_evenAt 3 (some .int), Cond.methodLink RX8 139 yX8_idleCost, Cond.instanceMethod yX8_idleCost, Cond.selects RX8 yX8_idleCost yX8_idleCost, Cond.code yX8_idleCost cX8_idleCost 3 (some .long), Cond.methodLink RX8 170 yX8_mean, Cond.instanceMethod yX8_mean]
def wsX8_play_r5 : List Cond := [Cond.selects RX8 yX8_mean yX8_mean, Cond.code yX8_mean cX8_mean 4 (some .int), Cond.methodLink RX8 197 yX8_battery, Cond.instanceMethod yX8_battery, Cond.selects RX8 yX8_battery yX8_battery, Cond.code yX8_battery cX8_battery 4 none, Cond.fieldLink RX8 70 "SleepPlannerModel" "available" "I", Cond.fieldLink RX8 66 "SleepPlannerModel" "harvest" "[I", Cond.fieldLink RX8 180 "SleepPlannerModel" "shortTicks" "I", Cond.constantLong RX8 183 (50000), Cond.constant RX8 69 (50000), Cond.fieldLink RX8 74 "SleepPlannerModel" "bound" "I", Cond.constant RX8 73 (100000), Cond.methodLink RX8 185 yX8_down, Cond.static yX8_down, Cond.code yX8_down cX8_down 2 (some .int)]
def wsX8_play : List Cond := .code yX8_play cX8_play 3 (some .int) :: ((wsX8_play_r1 ++ (wsX8_play_r2 ++ (wsX8_play_r3 ++ (wsX8_play_r4 ++ wsX8_play_r5)))) ++ wsX80)
def wsX8_now : List Cond := .code yX8_now cX8_now 1 (some .int) :: ([.fieldLink RX8 84 "SleepPlannerModel" "thrown" "I", .fieldLink RX8 97 "SleepPlannerModel" "now" "I"] ++ wsX80)
def wsX8_state : List Cond := .code yX8_state cX8_state 1 (some .int) :: ([.fieldLink RX8 84 "SleepPlannerModel" "thrown" "I", .fieldLink RX8 103 "SleepPlannerModel" "state" "I"] ++ wsX80)
def wsX8_spent : List Cond := .code yX8_spent cX8_spent 1 (some .long) :: ([.fieldLink RX8 84 "SleepPlannerModel" "thrown" "I", .fieldLink RX8 87 "SleepPlannerModel" "spent" "J"] ++ wsX80)
def wsX8_ticksIn : List Cond := .code yX8_ticksIn cX8_ticksIn 2 (some .int) :: ([.fieldLink RX8 63 "SleepPlannerModel" "ticksIn" "[I", .methodLink RX8 113 yX8_in, .static yX8_in, .initialized RX8, .code yX8_in cX8_in 3 (some .boolean), .methodLink RX8 117 yX8_asks, .instanceMethod yX8_asks, .selects RX8 yX8_asks yX8_asks, .code yX8_asks cX8_asks 2 (some .boolean), .fieldLink RX8 84 "SleepPlannerModel" "thrown" "I"] ++ wsX80)
def wsX8_sleeps : List Cond := .code yX8_sleeps cX8_sleeps 1 (some .int) :: ([.fieldLink RX8 84 "SleepPlannerModel" "thrown" "I", .fieldLink RX8 177 "SleepPlannerModel" "sleeps" "I"] ++ wsX80)
def wsX8_lateness : List Cond := .code yX8_lateness cX8_lateness 1 (some .int) :: ([.fieldLink RX8 84 "SleepPlannerModel" "thrown" "I", .fieldLink RX8 160 "SleepPlannerModel" "lateness" "I"] ++ wsX80)
def wsX8_served : List Cond := .code yX8_served cX8_served 1 (some .int) :: ([.fieldLink RX8 84 "SleepPlannerModel" "thrown" "I", .fieldLink RX8 163 "SleepPlannerModel" "served" "I"] ++ wsX80)
def wsX8_setHarvest : List Cond := .code yX8_setHarvest cX8_setHarvest 4 (some .int) :: ([.fieldLink RX8 66 "SleepPlannerModel" "harvest" "[I", .methodLink RX8 113 yX8_in, .static yX8_in, .initialized RX8, .code yX8_in cX8_in 3 (some .boolean), .methodLink RX8 117 yX8_asks, .instanceMethod yX8_asks, .selects RX8 yX8_asks yX8_asks, .code yX8_asks cX8_asks 2 (some .boolean), .fieldLink RX8 84 "SleepPlannerModel" "thrown" "I"] ++ wsX80)
def wsX8_available : List Cond := .code yX8_available cX8_available 1 (some .int) :: ([.fieldLink RX8 84 "SleepPlannerModel" "thrown" "I", .fieldLink RX8 70 "SleepPlannerModel" "available" "I"] ++ wsX80)
def wsX8_bound : List Cond := .code yX8_bound cX8_bound 1 (some .int) :: ([.fieldLink RX8 84 "SleepPlannerModel" "thrown" "I", .fieldLink RX8 74 "SleepPlannerModel" "bound" "I"] ++ wsX80)
def wsX8_shortTicks : List Cond := .code yX8_shortTicks cX8_shortTicks 1 (some .int) :: ([.fieldLink RX8 84 "SleepPlannerModel" "thrown" "I", .fieldLink RX8 180 "SleepPlannerModel" "shortTicks" "I"] ++ wsX80)
def wsX8_isReach : List Cond := .code yX8_isReach cX8_isReach 2 (some .boolean) :: ([.fieldLink RX8 97 "SleepPlannerModel" "now" "I"] ++ wsX80)
def wsX8_nextPlanned : List Cond := .code yX8_nextPlanned cX8_nextPlanned 5 (some .int) :: ([.fieldLink RX8 146 "SleepPlannerModel" "timers" "I", .fieldLink RX8 42 "SleepPlannerModel" "due" "[I", .fieldLink RX8 45 "SleepPlannerModel" "latest" "[I"] ++ wsX80)
def wsX8_wakeups : List Cond := .code yX8_wakeups cX8_wakeups 4 (some .int) :: ([.methodLink RX8 203 yX8_nextPlanned, .instanceMethod yX8_nextPlanned, .selects RX8 yX8_nextPlanned yX8_nextPlanned, .initialized RX8, .code yX8_nextPlanned cX8_nextPlanned 5 (some .int), .fieldLink RX8 146 "SleepPlannerModel" "timers" "I", .fieldLink RX8 42 "SleepPlannerModel" "due" "[I", .fieldLink RX8 45 "SleepPlannerModel" "latest" "[I"] ++ wsX80)
def wsX8_plannedWakeups : List Cond := .code yX8_plannedWakeups cX8_plannedWakeups 2 (some .int) :: ([.methodLink RX8 206 yX8_isReach, .instanceMethod yX8_isReach, .selects RX8 yX8_isReach yX8_isReach, .initialized RX8, .code yX8_isReach cX8_isReach 2 (some .boolean), .fieldLink RX8 97 "SleepPlannerModel" "now" "I", .methodLink RX8 117 yX8_asks, .instanceMethod yX8_asks, .selects RX8 yX8_asks yX8_asks, .code yX8_asks cX8_asks 2 (some .boolean), .fieldLink RX8 84 "SleepPlannerModel" "thrown" "I", .methodLink RX8 209 yX8_wakeups, .instanceMethod yX8_wakeups, .selects RX8 yX8_wakeups yX8_wakeups, .code yX8_wakeups cX8_wakeups 4 (some .int), .methodLink RX8 203 yX8_nextPlanned, .instanceMethod yX8_nextPlanned, .selects RX8 yX8_nextPlanned yX8_nextPlanned, .code yX8_nextPlanned cX8_nextPlanned 5 (some .int), .fieldLink RX8 146 "SleepPlannerModel" "timers" "I", .fieldLink RX8 42 "SleepPlannerModel" "due" "[I", .fieldLink RX8 45 "SleepPlannerModel" "latest" "[I"] ++ wsX80)
def wsX8_fewestWakeups : List Cond := .code yX8_fewestWakeups cX8_fewestWakeups 2 (some .int) :: ([.methodLink RX8 206 yX8_isReach, .instanceMethod yX8_isReach, .selects RX8 yX8_isReach yX8_isReach, .initialized RX8, .code yX8_isReach cX8_isReach 2 (some .boolean), .fieldLink RX8 97 "SleepPlannerModel" "now" "I", .methodLink RX8 117 yX8_asks, .instanceMethod yX8_asks, .selects RX8 yX8_asks yX8_asks, .code yX8_asks cX8_asks 2 (some .boolean), .fieldLink RX8 84 "SleepPlannerModel" "thrown" "I", .methodLink RX8 209 yX8_wakeups, .instanceMethod yX8_wakeups, .selects RX8 yX8_wakeups yX8_wakeups, .code yX8_wakeups cX8_wakeups 4 (some .int), .methodLink RX8 203 yX8_nextPlanned, .instanceMethod yX8_nextPlanned, .selects RX8 yX8_nextPlanned yX8_nextPlanned, .code yX8_nextPlanned cX8_nextPlanned 5 (some .int), .fieldLink RX8 146 "SleepPlannerModel" "timers" "I", .fieldLink RX8 42 "SleepPlannerModel" "due" "[I", .fieldLink RX8 45 "SleepPlannerModel" "latest" "[I"] ++ wsX80)
def wsX8_plannedCost_r1 : List Cond := [Cond.fieldLink RX8 97 "SleepPlannerModel" "now" "I", Cond.methodLink RX8 206 yX8_isReach, Cond.instanceMethod yX8_isReach, Cond.selects RX8 yX8_isReach yX8_isReach, Cond.initialized RX8, Cond.code yX8_isReach cX8_isReach 2 (some .boolean), Cond.methodLink RX8 117 yX8_asks, Cond.instanceMethod yX8_asks, Cond.selects RX8 yX8_asks yX8_asks, Cond.code yX8_asks cX8_asks 2 (some .boolean), Cond.fieldLink RX8 84 "SleepPlannerModel" "thrown" "I", Cond.methodLink RX8 203 yX8_nextPlanned, Cond.instanceMethod yX8_nextPlanned, Cond.selects RX8 yX8_nextPlanned yX8_nextPlanned, Cond.code yX8_nextPlanned cX8_nextPlanned 5 (some .int), Cond.fieldLink RX8 146 "SleepPlannerModel" "timers" "I", Cond.fieldLink RX8 42 "SleepPlannerModel" "due" "[I", Cond.fieldLink RX8 45 "SleepPlannerModel" "latest" "[I", Cond.methodLink RX8 173 yX8_chooses, Cond.instanceMethod yX8_chooses, Cond.selects RX8 yX8_chooses yX8_chooses, Cond.code yX8_chooses cX8_chooses 6 (some .int), Cond.fieldLink RX8 16 "SleepPlannerModel" "latency" "[I", Cond.methodLink RX8 135 yX8_deepestNow]
def wsX8_plannedCost_r2 : List Cond := [Cond.instanceMethod yX8_deepestNow, Cond.selects RX8 yX8_deepestNow yX8_deepestNow, Cond.code yX8_deepestNow cX8_deepestNow 3 (some .int), Cond.fieldLink RX8 19 "SleepPlannerModel" "votes" "[I", Cond.fieldLink RX8 22 "SleepPlannerModel" "clocks" "I", Cond.fieldLink RX8 38 "SleepPlannerModel" "isRunning" "[Z", Cond.fieldLink RX8 32 "SleepPlannerModel" "deepest" "[I", Cond.methodLink RX8 132 yX8_findsRunning, Cond.instanceMethod yX8_findsRunning, Cond.selects RX8 yX8_findsRunning yX8_findsRunning, Cond.code yX8_findsRunning cX8_findsRunning 2 none, Cond.fieldLink RX8 35 "SleepPlannerModel" "uses" "[I", Cond.fieldLink RX8 26 "SleepPlannerModel" "parent" "[I", Cond.methodLink RX8 143 yX8_evenAt, Cond.instanceMethod yX8_evenAt, Cond.selects RX8 yX8_evenAt yX8_evenAt, Cond.code yX8_evenAt cX8_evenAt 3 (some .int), Cond.methodLink RX8 139 yX8_idleCost, Cond.instanceMethod yX8_idleCost, Cond.selects RX8 yX8_idleCost yX8_idleCost, Cond.code yX8_idleCost cX8_idleCost 3 (some .long), Cond.fieldLink RX8 7 "SleepPlannerModel" "power" "[I", Cond.fieldLink RX8 13 "SleepPlannerModel" "cost" "[I", Cond.methodLink RX8 170 yX8_mean]
def wsX8_plannedCost_r3 : List Cond := [Cond.instanceMethod yX8_mean, Cond.selects RX8 yX8_mean yX8_mean, Cond.code yX8_mean cX8_mean 4 (some .int), Cond.fieldLink RX8 94 "SleepPlannerModel" "idles" "I", Cond.fieldLink RX8 60 "SleepPlannerModel" "idle" "[I", Cond.constant RX8 152 (1000000000)]
def wsX8_plannedCost : List Cond := .code yX8_plannedCost cX8_plannedCost 7 (some .long) :: ((wsX8_plannedCost_r1 ++ (wsX8_plannedCost_r2 ++ wsX8_plannedCost_r3)) ++ wsX80)
def wsX8_leastCost_r1 : List Cond := [Cond.fieldLink RX8 97 "SleepPlannerModel" "now" "I", Cond.fieldLink RX8 81 "SleepPlannerModel" "byLength" "[J", Cond.fieldLink RX8 16 "SleepPlannerModel" "latency" "[I", Cond.fieldLink RX8 77 "SleepPlannerModel" "least" "[J", Cond.constantLong RX8 212 (-1), Cond.methodLink RX8 206 yX8_isReach, Cond.instanceMethod yX8_isReach, Cond.selects RX8 yX8_isReach yX8_isReach, Cond.initialized RX8, Cond.code yX8_isReach cX8_isReach 2 (some .boolean), Cond.methodLink RX8 117 yX8_asks, Cond.instanceMethod yX8_asks, Cond.selects RX8 yX8_asks yX8_asks, Cond.code yX8_asks cX8_asks 2 (some .boolean), Cond.fieldLink RX8 84 "SleepPlannerModel" "thrown" "I", Cond.methodLink RX8 135 yX8_deepestNow, Cond.instanceMethod yX8_deepestNow, Cond.selects RX8 yX8_deepestNow yX8_deepestNow, Cond.code yX8_deepestNow cX8_deepestNow 3 (some .int), Cond.fieldLink RX8 19 "SleepPlannerModel" "votes" "[I", Cond.fieldLink RX8 22 "SleepPlannerModel" "clocks" "I", Cond.fieldLink RX8 38 "SleepPlannerModel" "isRunning" "[Z", Cond.fieldLink RX8 32 "SleepPlannerModel" "deepest" "[I", Cond.methodLink RX8 132 yX8_findsRunning]
def wsX8_leastCost_r2 : List Cond := [Cond.instanceMethod yX8_findsRunning, Cond.selects RX8 yX8_findsRunning yX8_findsRunning, Cond.code yX8_findsRunning cX8_findsRunning 2 none, Cond.fieldLink RX8 35 "SleepPlannerModel" "uses" "[I", Cond.fieldLink RX8 26 "SleepPlannerModel" "parent" "[I", Cond.methodLink RX8 139 yX8_idleCost, Cond.instanceMethod yX8_idleCost, Cond.selects RX8 yX8_idleCost yX8_idleCost, Cond.code yX8_idleCost cX8_idleCost 3 (some .long), Cond.fieldLink RX8 7 "SleepPlannerModel" "power" "[I", Cond.fieldLink RX8 13 "SleepPlannerModel" "cost" "[I", Cond.methodLink RX8 203 yX8_nextPlanned, Cond.instanceMethod yX8_nextPlanned, Cond.selects RX8 yX8_nextPlanned yX8_nextPlanned, Cond.code yX8_nextPlanned cX8_nextPlanned 5 (some .int), Cond.fieldLink RX8 146 "SleepPlannerModel" "timers" "I", Cond.fieldLink RX8 42 "SleepPlannerModel" "due" "[I", Cond.fieldLink RX8 45 "SleepPlannerModel" "latest" "[I"]
def wsX8_leastCost : List Cond := .code yX8_leastCost cX8_leastCost 9 (some .long) :: ((wsX8_leastCost_r1 ++ wsX8_leastCost_r2) ++ wsX80)
def wsJ9_max_7cf53 : List Cond := .code yJ9_max_7cf53 cJ9_max_7cf53 2 (some .int) :: ([])
def wsJ9_max_f86c9 : List Cond := .code yJ9_max_f86c9 cJ9_max_f86c9 4 (some .long) :: ([])
def wsJ9_min_7cf53 : List Cond := .code yJ9_min_7cf53 cJ9_min_7cf53 2 (some .int) :: ([])
def wsJ9_min_f86c9 : List Cond := .code yJ9_min_f86c9 cJ9_min_f86c9 4 (some .long) :: ([])
def wsL_setState_r1 : List Cond := [Cond.classLink RL 13 "java/lang/IllegalArgumentException", Cond.methodLink RL 7 yX7_setState, Cond.instanceMethod yX7_setState, Cond.selects RX7 yX7_setState yX7_setState, Cond.initialized RX7, Cond.code yX7_setState cX7_setState 5 none, Cond.classLink RX7 82 "java/lang/IllegalArgumentException", Cond.initialized "java/lang/IllegalArgumentException", Cond.fieldLink RX7 10 "SleepPlanner" "states" "LSleepPlanner$States;", Cond.methodLink RX7 78 yX7_isWithin, Cond.static yX7_isWithin, Cond.code yX7_isWithin cX7_isWithin 3 (some .boolean), Cond.methodLink RX7 89 yX7_wakeForCall, Cond.instanceMethod yX7_wakeForCall, Cond.selects RX7 yX7_wakeForCall yX7_wakeForCall, Cond.code yX7_wakeForCall cX7_wakeForCall 1 none, Cond.fieldLink RX7 72 "SleepPlanner" "state" "I", Cond.fieldLink RX7 47 "SleepPlanner" "ledger" "LSleepPlanner$Ledger;", Cond.methodLink RX7 283 yX6_wakingCost, Cond.instanceMethod yX6_wakingCost, Cond.selects RX6 yX6_wakingCost yX6_wakingCost, Cond.initialized RX6, Cond.code yX6_wakingCost cX6_wakingCost 2 (some .int), Cond.methodLink RX6 29 yX6_powerOf]
def wsL_setState_r2 : List Cond := [Cond.instanceMethod yX6_powerOf, Cond.selects RX6 yX6_powerOf yX6_powerOf, Cond.code yX6_powerOf cX6_powerOf 2 (some .int), Cond.fieldLink RX6 9 "SleepPlanner$States" "power" "[I", Cond.static yX7_read, Cond.code yX7_read cX7_read 2 (some .int), Cond.methodLink RX6 33 yX6_latencyOf, Cond.instanceMethod yX6_latencyOf, Cond.selects RX6 yX6_latencyOf yX6_latencyOf, Cond.code yX6_latencyOf cX6_latencyOf 2 (some .int), Cond.fieldLink RX6 18 "SleepPlanner$States" "latency" "[I", Cond.methodLink RX7 262 yX4_spend, Cond.instanceMethod yX4_spend, Cond.selects RX4 yX4_spend yX4_spend, Cond.initialized RX4, Cond.code yX4_spend cX4_spend 3 none, Cond.fieldLink RX4 15 "SleepPlanner$Ledger" "spent" "J", Cond.fieldLink RX4 19 "SleepPlanner$Ledger" "unpaid" "J", Cond.methodLink RX7 289 yX7_endIdleTime, Cond.instanceMethod yX7_endIdleTime, Cond.selects RX7 yX7_endIdleTime yX7_endIdleTime, Cond.code yX7_endIdleTime cX7_endIdleTime 1 none, Cond.fieldLink RX7 40 "SleepPlanner" "idleTimes" "LSleepPlanner$IdleTimes;", Cond.fieldLink RX7 69 "SleepPlanner" "now" "I"]
def wsL_setState_r3 : List Cond := [Cond.fieldLink RX7 75 "SleepPlanner" "asleepSince" "I", Cond.methodLink RX7 292 yX2_remember, Cond.instanceMethod yX2_remember, Cond.selects RX2 yX2_remember yX2_remember, Cond.initialized RX2, Cond.code yX2_remember cX2_remember 3 none, Cond.fieldLink RX2 11 "SleepPlanner$IdleTimes" "lengths" "[I", Cond.fieldLink RX2 15 "SleepPlanner$IdleTimes" "count" "I", Cond.methodLink RX2 19 Lib.Math.min.name, Cond.static Lib.Math.min.name, Cond.initialized "java/lang/Math", Cond.code Lib.Math.min.name Lib.Math.min.code 2 (some .int), Cond.methodLink RX7 92 yX6_change, Cond.instanceMethod yX6_change, Cond.selects RX6 yX6_change yX6_change, Cond.code yX6_change cX6_change 5 none, Cond.fieldLink RX6 15 "SleepPlanner$States" "cost" "[I", Cond.static yX7_exchange, Cond.code yX7_exchange cX7_exchange 4 (some .int)]
def wsL_setState : List Cond := .codeWith yL_setState cL_setState 6 (some .int) [(0, 9, 12, 13)] :: ((wsL_setState_r1 ++ (wsL_setState_r2 ++ wsL_setState_r3)) ++ wsX70 ++ wsX60 ++ wsX40 ++ wsX20 ++ (vx_atS RX7 86 "java/lang/IllegalArgumentException" ["java/lang/RuntimeException", "java/lang/Exception"]).filter goodWord)
def wsL_setAwake_r1 : List Cond := [Cond.classLink RL 13 "java/lang/IllegalArgumentException", Cond.methodLink RL 15 yX7_setAwake, Cond.instanceMethod yX7_setAwake, Cond.selects RX7 yX7_setAwake yX7_setAwake, Cond.initialized RX7, Cond.code yX7_setAwake cX7_setAwake 3 (some .int), Cond.classLink RX7 82 "java/lang/IllegalArgumentException", Cond.initialized "java/lang/IllegalArgumentException", Cond.fieldLink RX7 10 "SleepPlanner" "states" "LSleepPlanner$States;", Cond.methodLink RX7 78 yX7_isWithin, Cond.static yX7_isWithin, Cond.code yX7_isWithin cX7_isWithin 3 (some .boolean), Cond.methodLink RX7 89 yX7_wakeForCall, Cond.instanceMethod yX7_wakeForCall, Cond.selects RX7 yX7_wakeForCall yX7_wakeForCall, Cond.code yX7_wakeForCall cX7_wakeForCall 1 none, Cond.fieldLink RX7 72 "SleepPlanner" "state" "I", Cond.fieldLink RX7 47 "SleepPlanner" "ledger" "LSleepPlanner$Ledger;", Cond.methodLink RX7 283 yX6_wakingCost, Cond.instanceMethod yX6_wakingCost, Cond.selects RX6 yX6_wakingCost yX6_wakingCost, Cond.initialized RX6, Cond.code yX6_wakingCost cX6_wakingCost 2 (some .int), Cond.methodLink RX6 29 yX6_powerOf]
def wsL_setAwake_r2 : List Cond := [Cond.instanceMethod yX6_powerOf, Cond.selects RX6 yX6_powerOf yX6_powerOf, Cond.code yX6_powerOf cX6_powerOf 2 (some .int), Cond.fieldLink RX6 9 "SleepPlanner$States" "power" "[I", Cond.static yX7_read, Cond.code yX7_read cX7_read 2 (some .int), Cond.methodLink RX6 33 yX6_latencyOf, Cond.instanceMethod yX6_latencyOf, Cond.selects RX6 yX6_latencyOf yX6_latencyOf, Cond.code yX6_latencyOf cX6_latencyOf 2 (some .int), Cond.fieldLink RX6 18 "SleepPlanner$States" "latency" "[I", Cond.methodLink RX7 262 yX4_spend, Cond.instanceMethod yX4_spend, Cond.selects RX4 yX4_spend yX4_spend, Cond.initialized RX4, Cond.code yX4_spend cX4_spend 3 none, Cond.fieldLink RX4 15 "SleepPlanner$Ledger" "spent" "J", Cond.fieldLink RX4 19 "SleepPlanner$Ledger" "unpaid" "J", Cond.methodLink RX7 289 yX7_endIdleTime, Cond.instanceMethod yX7_endIdleTime, Cond.selects RX7 yX7_endIdleTime yX7_endIdleTime, Cond.code yX7_endIdleTime cX7_endIdleTime 1 none, Cond.fieldLink RX7 40 "SleepPlanner" "idleTimes" "LSleepPlanner$IdleTimes;", Cond.fieldLink RX7 69 "SleepPlanner" "now" "I"]
def wsL_setAwake_r3 : List Cond := [Cond.fieldLink RX7 75 "SleepPlanner" "asleepSince" "I", Cond.methodLink RX7 292 yX2_remember, Cond.instanceMethod yX2_remember, Cond.selects RX2 yX2_remember yX2_remember, Cond.initialized RX2, Cond.code yX2_remember cX2_remember 3 none, Cond.fieldLink RX2 11 "SleepPlanner$IdleTimes" "lengths" "[I", Cond.fieldLink RX2 15 "SleepPlanner$IdleTimes" "count" "I", Cond.methodLink RX2 19 Lib.Math.min.name, Cond.static Lib.Math.min.name, Cond.initialized "java/lang/Math", Cond.code Lib.Math.min.name Lib.Math.min.code 2 (some .int), Cond.methodLink RX7 98 yX6_powerOf, Cond.methodLink RX7 92 yX6_change, Cond.instanceMethod yX6_change, Cond.selects RX6 yX6_change yX6_change, Cond.code yX6_change cX6_change 5 none, Cond.fieldLink RX6 15 "SleepPlanner$States" "cost" "[I", Cond.static yX7_exchange, Cond.code yX7_exchange cX7_exchange 4 (some .int)]
def wsL_setAwake : List Cond := .codeWith yL_setAwake cL_setAwake 4 (some .int) [(0, 9, 12, 13)] :: ((wsL_setAwake_r1 ++ (wsL_setAwake_r2 ++ wsL_setAwake_r3)) ++ wsX70 ++ wsX60 ++ wsX40 ++ wsX20 ++ (vx_atS RX7 86 "java/lang/IllegalArgumentException" ["java/lang/RuntimeException", "java/lang/Exception"]).filter goodWord)
def wsL_vote_r1 : List Cond := [Cond.classLink RL 13 "java/lang/IllegalArgumentException", Cond.methodLink RL 19 yX7_vote, Cond.instanceMethod yX7_vote, Cond.selects RX7 yX7_vote yX7_vote, Cond.initialized RX7, Cond.code yX7_vote cX7_vote 3 (some .int), Cond.classLink RX7 82 "java/lang/IllegalArgumentException", Cond.initialized "java/lang/IllegalArgumentException", Cond.fieldLink RX7 16 "SleepPlanner" "votes" "[I", Cond.methodLink RX7 78 yX7_isWithin, Cond.static yX7_isWithin, Cond.code yX7_isWithin cX7_isWithin 3 (some .boolean), Cond.methodLink RX7 89 yX7_wakeForCall, Cond.instanceMethod yX7_wakeForCall, Cond.selects RX7 yX7_wakeForCall yX7_wakeForCall, Cond.code yX7_wakeForCall cX7_wakeForCall 1 none, Cond.fieldLink RX7 72 "SleepPlanner" "state" "I", Cond.fieldLink RX7 47 "SleepPlanner" "ledger" "LSleepPlanner$Ledger;", Cond.fieldLink RX7 10 "SleepPlanner" "states" "LSleepPlanner$States;", Cond.methodLink RX7 283 yX6_wakingCost, Cond.instanceMethod yX6_wakingCost, Cond.selects RX6 yX6_wakingCost yX6_wakingCost, Cond.initialized RX6, Cond.code yX6_wakingCost cX6_wakingCost 2 (some .int)]
def wsL_vote_r2 : List Cond := [Cond.methodLink RX6 29 yX6_powerOf, Cond.instanceMethod yX6_powerOf, Cond.selects RX6 yX6_powerOf yX6_powerOf, Cond.code yX6_powerOf cX6_powerOf 2 (some .int), Cond.fieldLink RX6 9 "SleepPlanner$States" "power" "[I", Cond.static yX7_read, Cond.code yX7_read cX7_read 2 (some .int), Cond.methodLink RX6 33 yX6_latencyOf, Cond.instanceMethod yX6_latencyOf, Cond.selects RX6 yX6_latencyOf yX6_latencyOf, Cond.code yX6_latencyOf cX6_latencyOf 2 (some .int), Cond.fieldLink RX6 18 "SleepPlanner$States" "latency" "[I", Cond.methodLink RX7 262 yX4_spend, Cond.instanceMethod yX4_spend, Cond.selects RX4 yX4_spend yX4_spend, Cond.initialized RX4, Cond.code yX4_spend cX4_spend 3 none, Cond.fieldLink RX4 15 "SleepPlanner$Ledger" "spent" "J", Cond.fieldLink RX4 19 "SleepPlanner$Ledger" "unpaid" "J", Cond.methodLink RX7 289 yX7_endIdleTime, Cond.instanceMethod yX7_endIdleTime, Cond.selects RX7 yX7_endIdleTime yX7_endIdleTime, Cond.code yX7_endIdleTime cX7_endIdleTime 1 none, Cond.fieldLink RX7 40 "SleepPlanner" "idleTimes" "LSleepPlanner$IdleTimes;"]
def wsL_vote_r3 : List Cond := [Cond.fieldLink RX7 69 "SleepPlanner" "now" "I", Cond.fieldLink RX7 75 "SleepPlanner" "asleepSince" "I", Cond.methodLink RX7 292 yX2_remember, Cond.instanceMethod yX2_remember, Cond.selects RX2 yX2_remember yX2_remember, Cond.initialized RX2, Cond.code yX2_remember cX2_remember 3 none, Cond.fieldLink RX2 11 "SleepPlanner$IdleTimes" "lengths" "[I", Cond.fieldLink RX2 15 "SleepPlanner$IdleTimes" "count" "I", Cond.methodLink RX2 19 Lib.Math.min.name, Cond.static Lib.Math.min.name, Cond.initialized "java/lang/Math", Cond.code Lib.Math.min.name Lib.Math.min.code 2 (some .int), Cond.methodLink RX7 104 yX7_exchange, Cond.static yX7_exchange, Cond.code yX7_exchange cX7_exchange 4 (some .int)]
def wsL_vote : List Cond := .codeWith yL_vote cL_vote 5 (some .int) [(0, 10, 13, 13)] :: ((wsL_vote_r1 ++ (wsL_vote_r2 ++ wsL_vote_r3)) ++ wsX70 ++ wsX60 ++ wsX40 ++ wsX20 ++ (vx_atS RX7 86 "java/lang/IllegalArgumentException" ["java/lang/RuntimeException", "java/lang/Exception"]).filter goodWord)
def wsL_addClock_r1 : List Cond := [Cond.classLink RL 27 "java/lang/IndexOutOfBoundsException", Cond.classLink RL 13 "java/lang/IllegalArgumentException", Cond.classLink RL 29 "java/lang/IllegalStateException", Cond.methodLink RL 23 yX7_addClock, Cond.instanceMethod yX7_addClock, Cond.selects RX7 yX7_addClock yX7_addClock, Cond.initialized RX7, Cond.code yX7_addClock cX7_addClock 4 (some .int), Cond.classLink RX7 112 "java/lang/IndexOutOfBoundsException", Cond.initialized "java/lang/IndexOutOfBoundsException", Cond.classLink RX7 82 "java/lang/IllegalArgumentException", Cond.initialized "java/lang/IllegalArgumentException", Cond.classLink RX7 123 "java/lang/IllegalStateException", Cond.initialized "java/lang/IllegalStateException", Cond.fieldLink RX7 23 "SleepPlanner" "clocks" "LSleepPlanner$Clocks;", Cond.methodLink RX7 108 yX1_has, Cond.instanceMethod yX1_has, Cond.selects RX1 yX1_has yX1_has, Cond.initialized RX1, Cond.code yX1_has cX1_has 2 (some .boolean), Cond.fieldLink RX1 28 "SleepPlanner$Clocks" "count" "I", Cond.methodLink RX7 78 yX7_isWithin, Cond.static yX7_isWithin, Cond.code yX7_isWithin cX7_isWithin 3 (some .boolean)]
def wsL_addClock_r2 : List Cond := [Cond.methodLink RX7 119 yX1_isFull, Cond.instanceMethod yX1_isFull, Cond.selects RX1 yX1_isFull yX1_isFull, Cond.code yX1_isFull cX1_isFull 1 (some .boolean), Cond.methodLink RX7 89 yX7_wakeForCall, Cond.instanceMethod yX7_wakeForCall, Cond.selects RX7 yX7_wakeForCall yX7_wakeForCall, Cond.code yX7_wakeForCall cX7_wakeForCall 1 none, Cond.fieldLink RX7 72 "SleepPlanner" "state" "I", Cond.fieldLink RX7 47 "SleepPlanner" "ledger" "LSleepPlanner$Ledger;", Cond.fieldLink RX7 10 "SleepPlanner" "states" "LSleepPlanner$States;", Cond.methodLink RX7 283 yX6_wakingCost, Cond.instanceMethod yX6_wakingCost, Cond.selects RX6 yX6_wakingCost yX6_wakingCost, Cond.initialized RX6, Cond.code yX6_wakingCost cX6_wakingCost 2 (some .int), Cond.methodLink RX6 29 yX6_powerOf, Cond.instanceMethod yX6_powerOf, Cond.selects RX6 yX6_powerOf yX6_powerOf, Cond.code yX6_powerOf cX6_powerOf 2 (some .int), Cond.fieldLink RX6 9 "SleepPlanner$States" "power" "[I", Cond.static yX7_read, Cond.code yX7_read cX7_read 2 (some .int), Cond.methodLink RX6 33 yX6_latencyOf]
def wsL_addClock_r3 : List Cond := [Cond.instanceMethod yX6_latencyOf, Cond.selects RX6 yX6_latencyOf yX6_latencyOf, Cond.code yX6_latencyOf cX6_latencyOf 2 (some .int), Cond.fieldLink RX6 18 "SleepPlanner$States" "latency" "[I", Cond.methodLink RX7 262 yX4_spend, Cond.instanceMethod yX4_spend, Cond.selects RX4 yX4_spend yX4_spend, Cond.initialized RX4, Cond.code yX4_spend cX4_spend 3 none, Cond.fieldLink RX4 15 "SleepPlanner$Ledger" "spent" "J", Cond.fieldLink RX4 19 "SleepPlanner$Ledger" "unpaid" "J", Cond.methodLink RX7 289 yX7_endIdleTime, Cond.instanceMethod yX7_endIdleTime, Cond.selects RX7 yX7_endIdleTime yX7_endIdleTime, Cond.code yX7_endIdleTime cX7_endIdleTime 1 none, Cond.fieldLink RX7 40 "SleepPlanner" "idleTimes" "LSleepPlanner$IdleTimes;", Cond.fieldLink RX7 69 "SleepPlanner" "now" "I", Cond.fieldLink RX7 75 "SleepPlanner" "asleepSince" "I", Cond.methodLink RX7 292 yX2_remember, Cond.instanceMethod yX2_remember, Cond.selects RX2 yX2_remember yX2_remember, Cond.initialized RX2, Cond.code yX2_remember cX2_remember 3 none, Cond.fieldLink RX2 11 "SleepPlanner$IdleTimes" "lengths" "[I"]
def wsL_addClock_r4 : List Cond := [Cond.fieldLink RX2 15 "SleepPlanner$IdleTimes" "count" "I", Cond.methodLink RX2 19 Lib.Math.min.name, Cond.static Lib.Math.min.name, Cond.initialized "java/lang/Math", Cond.code Lib.Math.min.name Lib.Math.min.code 2 (some .int), Cond.methodLink RX7 128 yX1_add, Cond.instanceMethod yX1_add, Cond.selects RX1 yX1_add yX1_add, Cond.code yX1_add cX1_add 4 (some .int), Cond.fieldLink RX1 11 "SleepPlanner$Clocks" "parent" "[I", Cond.fieldLink RX1 15 "SleepPlanner$Clocks" "frequency" "[I", Cond.fieldLink RX1 18 "SleepPlanner$Clocks" "deepest" "[I", Cond.fieldLink RX1 21 "SleepPlanner$Clocks" "uses" "[I", Cond.methodLink RX1 32 yX1_isFull]
def wsL_addClock : List Cond := .codeWith yL_addClock cL_addClock 6 (some .int) [(0, 12, 15, 27), (0, 12, 19, 13), (0, 12, 23, 29)] :: ((wsL_addClock_r1 ++ (wsL_addClock_r2 ++ (wsL_addClock_r3 ++ wsL_addClock_r4))) ++ wsX70 ++ wsX10 ++ wsX60 ++ wsX40 ++ wsX20 ++ (vx_atS RX7 116 "java/lang/IndexOutOfBoundsException" ["java/lang/RuntimeException", "java/lang/Exception"]).filter goodWord ++ (vx_atS RX7 86 "java/lang/IllegalArgumentException" ["java/lang/RuntimeException", "java/lang/Exception"]).filter goodWord ++ (vx_atS RX7 127 "java/lang/IllegalStateException" ["java/lang/RuntimeException", "java/lang/Exception"]).filter goodWord)
def wsL_use_r1 : List Cond := [Cond.classLink RL 27 "java/lang/IndexOutOfBoundsException", Cond.classLink RL 29 "java/lang/IllegalStateException", Cond.methodLink RL 31 yX7_use, Cond.instanceMethod yX7_use, Cond.selects RX7 yX7_use yX7_use, Cond.initialized RX7, Cond.code yX7_use cX7_use 2 (some .int), Cond.classLink RX7 112 "java/lang/IndexOutOfBoundsException", Cond.initialized "java/lang/IndexOutOfBoundsException", Cond.classLink RX7 123 "java/lang/IllegalStateException", Cond.initialized "java/lang/IllegalStateException", Cond.fieldLink RX7 23 "SleepPlanner" "clocks" "LSleepPlanner$Clocks;", Cond.methodLink RX7 108 yX1_has, Cond.instanceMethod yX1_has, Cond.selects RX1 yX1_has yX1_has, Cond.initialized RX1, Cond.code yX1_has cX1_has 2 (some .boolean), Cond.fieldLink RX1 28 "SleepPlanner$Clocks" "count" "I", Cond.methodLink RX7 134 yX1_usesOf, Cond.instanceMethod yX1_usesOf, Cond.selects RX1 yX1_usesOf yX1_usesOf, Cond.code yX1_usesOf cX1_usesOf 2 (some .int), Cond.fieldLink RX1 21 "SleepPlanner$Clocks" "uses" "[I", Cond.static yX7_read]
def wsL_use_r2 : List Cond := [Cond.code yX7_read cX7_read 2 (some .int), Cond.methodLink RX7 89 yX7_wakeForCall, Cond.instanceMethod yX7_wakeForCall, Cond.selects RX7 yX7_wakeForCall yX7_wakeForCall, Cond.code yX7_wakeForCall cX7_wakeForCall 1 none, Cond.fieldLink RX7 72 "SleepPlanner" "state" "I", Cond.fieldLink RX7 47 "SleepPlanner" "ledger" "LSleepPlanner$Ledger;", Cond.fieldLink RX7 10 "SleepPlanner" "states" "LSleepPlanner$States;", Cond.methodLink RX7 283 yX6_wakingCost, Cond.instanceMethod yX6_wakingCost, Cond.selects RX6 yX6_wakingCost yX6_wakingCost, Cond.initialized RX6, Cond.code yX6_wakingCost cX6_wakingCost 2 (some .int), Cond.methodLink RX6 29 yX6_powerOf, Cond.instanceMethod yX6_powerOf, Cond.selects RX6 yX6_powerOf yX6_powerOf, Cond.code yX6_powerOf cX6_powerOf 2 (some .int), Cond.fieldLink RX6 9 "SleepPlanner$States" "power" "[I", Cond.methodLink RX6 33 yX6_latencyOf, Cond.instanceMethod yX6_latencyOf, Cond.selects RX6 yX6_latencyOf yX6_latencyOf, Cond.code yX6_latencyOf cX6_latencyOf 2 (some .int), Cond.fieldLink RX6 18 "SleepPlanner$States" "latency" "[I", Cond.methodLink RX7 262 yX4_spend]
def wsL_use_r3 : List Cond := [Cond.instanceMethod yX4_spend, Cond.selects RX4 yX4_spend yX4_spend, Cond.initialized RX4, Cond.code yX4_spend cX4_spend 3 none, Cond.fieldLink RX4 15 "SleepPlanner$Ledger" "spent" "J", Cond.fieldLink RX4 19 "SleepPlanner$Ledger" "unpaid" "J", Cond.methodLink RX7 289 yX7_endIdleTime, Cond.instanceMethod yX7_endIdleTime, Cond.selects RX7 yX7_endIdleTime yX7_endIdleTime, Cond.code yX7_endIdleTime cX7_endIdleTime 1 none, Cond.fieldLink RX7 40 "SleepPlanner" "idleTimes" "LSleepPlanner$IdleTimes;", Cond.fieldLink RX7 69 "SleepPlanner" "now" "I", Cond.fieldLink RX7 75 "SleepPlanner" "asleepSince" "I", Cond.methodLink RX7 292 yX2_remember, Cond.instanceMethod yX2_remember, Cond.selects RX2 yX2_remember yX2_remember, Cond.initialized RX2, Cond.code yX2_remember cX2_remember 3 none, Cond.fieldLink RX2 11 "SleepPlanner$IdleTimes" "lengths" "[I", Cond.fieldLink RX2 15 "SleepPlanner$IdleTimes" "count" "I", Cond.methodLink RX2 19 Lib.Math.min.name, Cond.static Lib.Math.min.name, Cond.initialized "java/lang/Math", Cond.code Lib.Math.min.name Lib.Math.min.code 2 (some .int)]
def wsL_use_r4 : List Cond := [Cond.methodLink RX7 139 yX1_changeUses, Cond.instanceMethod yX1_changeUses, Cond.selects RX1 yX1_changeUses yX1_changeUses, Cond.code yX1_changeUses cX1_changeUses 3 (some .int), Cond.methodLink RX1 40 yX1_usesOf, Cond.static yX7_exchange, Cond.code yX7_exchange cX7_exchange 4 (some .int)]
def wsL_use : List Cond := .codeWith yL_use cL_use 4 (some .int) [(0, 9, 12, 27), (0, 9, 15, 29)] :: ((wsL_use_r1 ++ (wsL_use_r2 ++ (wsL_use_r3 ++ wsL_use_r4))) ++ wsX70 ++ wsX10 ++ wsX60 ++ wsX40 ++ wsX20 ++ (vx_atS RX7 116 "java/lang/IndexOutOfBoundsException" ["java/lang/RuntimeException", "java/lang/Exception"]).filter goodWord ++ (vx_atS RX7 127 "java/lang/IllegalStateException" ["java/lang/RuntimeException", "java/lang/Exception"]).filter goodWord)
def wsL_release_r1 : List Cond := [Cond.classLink RL 27 "java/lang/IndexOutOfBoundsException", Cond.classLink RL 29 "java/lang/IllegalStateException", Cond.methodLink RL 34 yX7_release, Cond.instanceMethod yX7_release, Cond.selects RX7 yX7_release yX7_release, Cond.initialized RX7, Cond.code yX7_release cX7_release 2 (some .int), Cond.classLink RX7 112 "java/lang/IndexOutOfBoundsException", Cond.initialized "java/lang/IndexOutOfBoundsException", Cond.classLink RX7 123 "java/lang/IllegalStateException", Cond.initialized "java/lang/IllegalStateException", Cond.fieldLink RX7 23 "SleepPlanner" "clocks" "LSleepPlanner$Clocks;", Cond.methodLink RX7 108 yX1_has, Cond.instanceMethod yX1_has, Cond.selects RX1 yX1_has yX1_has, Cond.initialized RX1, Cond.code yX1_has cX1_has 2 (some .boolean), Cond.fieldLink RX1 28 "SleepPlanner$Clocks" "count" "I", Cond.methodLink RX7 134 yX1_usesOf, Cond.instanceMethod yX1_usesOf, Cond.selects RX1 yX1_usesOf yX1_usesOf, Cond.code yX1_usesOf cX1_usesOf 2 (some .int), Cond.fieldLink RX1 21 "SleepPlanner$Clocks" "uses" "[I", Cond.static yX7_read]
def wsL_release_r2 : List Cond := [Cond.code yX7_read cX7_read 2 (some .int), Cond.methodLink RX7 89 yX7_wakeForCall, Cond.instanceMethod yX7_wakeForCall, Cond.selects RX7 yX7_wakeForCall yX7_wakeForCall, Cond.code yX7_wakeForCall cX7_wakeForCall 1 none, Cond.fieldLink RX7 72 "SleepPlanner" "state" "I", Cond.fieldLink RX7 47 "SleepPlanner" "ledger" "LSleepPlanner$Ledger;", Cond.fieldLink RX7 10 "SleepPlanner" "states" "LSleepPlanner$States;", Cond.methodLink RX7 283 yX6_wakingCost, Cond.instanceMethod yX6_wakingCost, Cond.selects RX6 yX6_wakingCost yX6_wakingCost, Cond.initialized RX6, Cond.code yX6_wakingCost cX6_wakingCost 2 (some .int), Cond.methodLink RX6 29 yX6_powerOf, Cond.instanceMethod yX6_powerOf, Cond.selects RX6 yX6_powerOf yX6_powerOf, Cond.code yX6_powerOf cX6_powerOf 2 (some .int), Cond.fieldLink RX6 9 "SleepPlanner$States" "power" "[I", Cond.methodLink RX6 33 yX6_latencyOf, Cond.instanceMethod yX6_latencyOf, Cond.selects RX6 yX6_latencyOf yX6_latencyOf, Cond.code yX6_latencyOf cX6_latencyOf 2 (some .int), Cond.fieldLink RX6 18 "SleepPlanner$States" "latency" "[I", Cond.methodLink RX7 262 yX4_spend]
def wsL_release_r3 : List Cond := [Cond.instanceMethod yX4_spend, Cond.selects RX4 yX4_spend yX4_spend, Cond.initialized RX4, Cond.code yX4_spend cX4_spend 3 none, Cond.fieldLink RX4 15 "SleepPlanner$Ledger" "spent" "J", Cond.fieldLink RX4 19 "SleepPlanner$Ledger" "unpaid" "J", Cond.methodLink RX7 289 yX7_endIdleTime, Cond.instanceMethod yX7_endIdleTime, Cond.selects RX7 yX7_endIdleTime yX7_endIdleTime, Cond.code yX7_endIdleTime cX7_endIdleTime 1 none, Cond.fieldLink RX7 40 "SleepPlanner" "idleTimes" "LSleepPlanner$IdleTimes;", Cond.fieldLink RX7 69 "SleepPlanner" "now" "I", Cond.fieldLink RX7 75 "SleepPlanner" "asleepSince" "I", Cond.methodLink RX7 292 yX2_remember, Cond.instanceMethod yX2_remember, Cond.selects RX2 yX2_remember yX2_remember, Cond.initialized RX2, Cond.code yX2_remember cX2_remember 3 none, Cond.fieldLink RX2 11 "SleepPlanner$IdleTimes" "lengths" "[I", Cond.fieldLink RX2 15 "SleepPlanner$IdleTimes" "count" "I", Cond.methodLink RX2 19 Lib.Math.min.name, Cond.static Lib.Math.min.name, Cond.initialized "java/lang/Math", Cond.code Lib.Math.min.name Lib.Math.min.code 2 (some .int)]
def wsL_release_r4 : List Cond := [Cond.methodLink RX7 139 yX1_changeUses, Cond.instanceMethod yX1_changeUses, Cond.selects RX1 yX1_changeUses yX1_changeUses, Cond.code yX1_changeUses cX1_changeUses 3 (some .int), Cond.methodLink RX1 40 yX1_usesOf, Cond.static yX7_exchange, Cond.code yX7_exchange cX7_exchange 4 (some .int)]
def wsL_release : List Cond := .codeWith yL_release cL_release 4 (some .int) [(0, 9, 12, 27), (0, 9, 15, 29)] :: ((wsL_release_r1 ++ (wsL_release_r2 ++ (wsL_release_r3 ++ wsL_release_r4))) ++ wsX70 ++ wsX10 ++ wsX60 ++ wsX40 ++ wsX20 ++ (vx_atS RX7 116 "java/lang/IndexOutOfBoundsException" ["java/lang/RuntimeException", "java/lang/Exception"]).filter goodWord ++ (vx_atS RX7 127 "java/lang/IllegalStateException" ["java/lang/RuntimeException", "java/lang/Exception"]).filter goodWord)
def wsL_runs_r1 : List Cond := [Cond.classLink RL 27 "java/lang/IndexOutOfBoundsException", Cond.methodLink RL 37 yX7_runs, Cond.instanceMethod yX7_runs, Cond.selects RX7 yX7_runs yX7_runs, Cond.initialized RX7, Cond.code yX7_runs cX7_runs 2 (some .boolean), Cond.classLink RX7 112 "java/lang/IndexOutOfBoundsException", Cond.initialized "java/lang/IndexOutOfBoundsException", Cond.fieldLink RX7 23 "SleepPlanner" "clocks" "LSleepPlanner$Clocks;", Cond.methodLink RX7 108 yX1_has, Cond.instanceMethod yX1_has, Cond.selects RX1 yX1_has yX1_has, Cond.initialized RX1, Cond.code yX1_has cX1_has 2 (some .boolean), Cond.fieldLink RX1 28 "SleepPlanner$Clocks" "count" "I", Cond.methodLink RX7 145 yX1_isRunning, Cond.instanceMethod yX1_isRunning, Cond.selects RX1 yX1_isRunning yX1_isRunning, Cond.code yX1_isRunning cX1_isRunning 2 (some .boolean), Cond.fieldLink RX1 24 "SleepPlanner$Clocks" "running" "[Z", Cond.methodLink RX1 48 yX1_markRunning, Cond.instanceMethod yX1_markRunning, Cond.selects RX1 yX1_markRunning yX1_markRunning, Cond.code yX1_markRunning cX1_markRunning 2 none]
def wsL_runs_r2 : List Cond := [Cond.fieldLink RX1 21 "SleepPlanner$Clocks" "uses" "[I", Cond.fieldLink RX1 11 "SleepPlanner$Clocks" "parent" "[I", Cond.methodLink RX1 51 yX1_has]
def wsL_runs : List Cond := .codeWith yL_runs cL_runs 4 (some .int) [(0, 16, 19, 27)] :: ((wsL_runs_r1 ++ wsL_runs_r2) ++ wsX70 ++ wsX10 ++ (vx_atS RX7 116 "java/lang/IndexOutOfBoundsException" ["java/lang/RuntimeException", "java/lang/Exception"]).filter goodWord)
def wsL_frequency : List Cond := .codeWith yL_frequency cL_frequency 4 (some .int) [(0, 9, 12, 27)] :: ([.classLink RL 27 "java/lang/IndexOutOfBoundsException", .methodLink RL 41 yX7_frequency, .instanceMethod yX7_frequency, .selects RX7 yX7_frequency yX7_frequency, .initialized RX7, .code yX7_frequency cX7_frequency 2 (some .int), .classLink RX7 112 "java/lang/IndexOutOfBoundsException", .initialized "java/lang/IndexOutOfBoundsException", .fieldLink RX7 23 "SleepPlanner" "clocks" "LSleepPlanner$Clocks;", .methodLink RX7 108 yX1_has, .instanceMethod yX1_has, .selects RX1 yX1_has yX1_has, .initialized RX1, .code yX1_has cX1_has 2 (some .boolean), .fieldLink RX1 28 "SleepPlanner$Clocks" "count" "I", .methodLink RX7 148 yX1_frequencyOf, .instanceMethod yX1_frequencyOf, .selects RX1 yX1_frequencyOf yX1_frequencyOf, .code yX1_frequencyOf cX1_frequencyOf 2 (some .int), .fieldLink RX1 15 "SleepPlanner$Clocks" "frequency" "[I", .static yX7_read, .code yX7_read cX7_read 2 (some .int)] ++ wsX70 ++ wsX10 ++ (vx_atS RX7 116 "java/lang/IndexOutOfBoundsException" ["java/lang/RuntimeException", "java/lang/Exception"]).filter goodWord)
def wsL_breakEven_r1 : List Cond := [Cond.classLink RL 13 "java/lang/IllegalArgumentException", Cond.methodLink RL 44 yX7_breakEven, Cond.instanceMethod yX7_breakEven, Cond.selects RX7 yX7_breakEven yX7_breakEven, Cond.initialized RX7, Cond.code yX7_breakEven cX7_breakEven 2 (some .int), Cond.classLink RX7 82 "java/lang/IllegalArgumentException", Cond.initialized "java/lang/IllegalArgumentException", Cond.fieldLink RX7 10 "SleepPlanner" "states" "LSleepPlanner$States;", Cond.methodLink RX7 78 yX7_isWithin, Cond.static yX7_isWithin, Cond.code yX7_isWithin cX7_isWithin 3 (some .boolean), Cond.methodLink RX7 162 yX6_leastWorthwhile, Cond.instanceMethod yX6_leastWorthwhile, Cond.selects RX6 yX6_leastWorthwhile yX6_leastWorthwhile, Cond.initialized RX6, Cond.code yX6_leastWorthwhile cX6_leastWorthwhile 4 (some .int), Cond.methodLink RX6 36 yX6_costOf, Cond.instanceMethod yX6_costOf, Cond.selects RX6 yX6_costOf yX6_costOf, Cond.code yX6_costOf cX6_costOf 2 (some .int), Cond.fieldLink RX6 15 "SleepPlanner$States" "cost" "[I", Cond.static yX7_read, Cond.code yX7_read cX7_read 2 (some .int)]
def wsL_breakEven_r2 : List Cond := [Cond.methodLink RX6 33 yX6_latencyOf, Cond.instanceMethod yX6_latencyOf, Cond.selects RX6 yX6_latencyOf yX6_latencyOf, Cond.code yX6_latencyOf cX6_latencyOf 2 (some .int), Cond.fieldLink RX6 18 "SleepPlanner$States" "latency" "[I", Cond.methodLink RX6 29 yX6_powerOf, Cond.instanceMethod yX6_powerOf, Cond.selects RX6 yX6_powerOf yX6_powerOf, Cond.code yX6_powerOf cX6_powerOf 2 (some .int), Cond.fieldLink RX6 9 "SleepPlanner$States" "power" "[I"]
def wsL_breakEven : List Cond := .codeWith yL_breakEven cL_breakEven 4 (some .int) [(0, 9, 12, 13)] :: ((wsL_breakEven_r1 ++ wsL_breakEven_r2) ++ wsX70 ++ wsX60 ++ (vx_atS RX7 86 "java/lang/IllegalArgumentException" ["java/lang/RuntimeException", "java/lang/Exception"]).filter goodWord)
def wsL_schedule_r1 : List Cond := [Cond.classLink RL 13 "java/lang/IllegalArgumentException", Cond.classLink RL 29 "java/lang/IllegalStateException", Cond.methodLink RL 47 yX7_schedule, Cond.instanceMethod yX7_schedule, Cond.selects RX7 yX7_schedule yX7_schedule, Cond.initialized RX7, Cond.code yX7_schedule cX7_schedule 4 (some .int), Cond.classLink RX7 82 "java/lang/IllegalArgumentException", Cond.initialized "java/lang/IllegalArgumentException", Cond.classLink RX7 123 "java/lang/IllegalStateException", Cond.initialized "java/lang/IllegalStateException", Cond.fieldLink RX7 69 "SleepPlanner" "now" "I", Cond.fieldLink RX7 30 "SleepPlanner" "timers" "LSleepPlanner$Jobs;", Cond.methodLink RX7 78 yX7_isWithin, Cond.static yX7_isWithin, Cond.code yX7_isWithin cX7_isWithin 3 (some .boolean), Cond.methodLink RX7 167 yX3_isFull, Cond.instanceMethod yX3_isFull, Cond.selects RX3 yX3_isFull yX3_isFull, Cond.initialized RX3, Cond.code yX3_isFull cX3_isFull 1 (some .boolean), Cond.fieldLink RX3 21 "SleepPlanner$Jobs" "count" "I", Cond.methodLink RX7 89 yX7_wakeForCall, Cond.instanceMethod yX7_wakeForCall]
def wsL_schedule_r2 : List Cond := [Cond.selects RX7 yX7_wakeForCall yX7_wakeForCall, Cond.code yX7_wakeForCall cX7_wakeForCall 1 none, Cond.fieldLink RX7 72 "SleepPlanner" "state" "I", Cond.fieldLink RX7 47 "SleepPlanner" "ledger" "LSleepPlanner$Ledger;", Cond.fieldLink RX7 10 "SleepPlanner" "states" "LSleepPlanner$States;", Cond.methodLink RX7 283 yX6_wakingCost, Cond.instanceMethod yX6_wakingCost, Cond.selects RX6 yX6_wakingCost yX6_wakingCost, Cond.initialized RX6, Cond.code yX6_wakingCost cX6_wakingCost 2 (some .int), Cond.methodLink RX6 29 yX6_powerOf, Cond.instanceMethod yX6_powerOf, Cond.selects RX6 yX6_powerOf yX6_powerOf, Cond.code yX6_powerOf cX6_powerOf 2 (some .int), Cond.fieldLink RX6 9 "SleepPlanner$States" "power" "[I", Cond.static yX7_read, Cond.code yX7_read cX7_read 2 (some .int), Cond.methodLink RX6 33 yX6_latencyOf, Cond.instanceMethod yX6_latencyOf, Cond.selects RX6 yX6_latencyOf yX6_latencyOf, Cond.code yX6_latencyOf cX6_latencyOf 2 (some .int), Cond.fieldLink RX6 18 "SleepPlanner$States" "latency" "[I", Cond.methodLink RX7 262 yX4_spend, Cond.instanceMethod yX4_spend]
def wsL_schedule_r3 : List Cond := [Cond.selects RX4 yX4_spend yX4_spend, Cond.initialized RX4, Cond.code yX4_spend cX4_spend 3 none, Cond.fieldLink RX4 15 "SleepPlanner$Ledger" "spent" "J", Cond.fieldLink RX4 19 "SleepPlanner$Ledger" "unpaid" "J", Cond.methodLink RX7 289 yX7_endIdleTime, Cond.instanceMethod yX7_endIdleTime, Cond.selects RX7 yX7_endIdleTime yX7_endIdleTime, Cond.code yX7_endIdleTime cX7_endIdleTime 1 none, Cond.fieldLink RX7 40 "SleepPlanner" "idleTimes" "LSleepPlanner$IdleTimes;", Cond.fieldLink RX7 75 "SleepPlanner" "asleepSince" "I", Cond.methodLink RX7 292 yX2_remember, Cond.instanceMethod yX2_remember, Cond.selects RX2 yX2_remember yX2_remember, Cond.initialized RX2, Cond.code yX2_remember cX2_remember 3 none, Cond.fieldLink RX2 11 "SleepPlanner$IdleTimes" "lengths" "[I", Cond.fieldLink RX2 15 "SleepPlanner$IdleTimes" "count" "I", Cond.methodLink RX2 19 Lib.Math.min.name, Cond.static Lib.Math.min.name, Cond.initialized "java/lang/Math", Cond.code Lib.Math.min.name Lib.Math.min.code 2 (some .int), Cond.methodLink RX7 170 yX3_add, Cond.instanceMethod yX3_add]
def wsL_schedule_r4 : List Cond := [Cond.selects RX3 yX3_add yX3_add, Cond.code yX3_add cX3_add 4 (some .int), Cond.fieldLink RX3 11 "SleepPlanner$Jobs" "due" "[I", Cond.fieldLink RX3 15 "SleepPlanner$Jobs" "latest" "[I", Cond.fieldLink RX3 18 "SleepPlanner$Jobs" "work" "[I", Cond.methodLink RX3 25 yX3_isFull]
def wsL_schedule : List Cond := .codeWith yL_schedule cL_schedule 6 (some .int) [(0, 12, 15, 13), (0, 12, 19, 29)] :: ((wsL_schedule_r1 ++ (wsL_schedule_r2 ++ (wsL_schedule_r3 ++ wsL_schedule_r4))) ++ wsX70 ++ wsX30 ++ wsX60 ++ wsX40 ++ wsX20 ++ (vx_atS RX7 86 "java/lang/IllegalArgumentException" ["java/lang/RuntimeException", "java/lang/Exception"]).filter goodWord ++ (vx_atS RX7 127 "java/lang/IllegalStateException" ["java/lang/RuntimeException", "java/lang/Exception"]).filter goodWord)
def wsL_addEvent_r1 : List Cond := [Cond.classLink RL 13 "java/lang/IllegalArgumentException", Cond.classLink RL 29 "java/lang/IllegalStateException", Cond.methodLink RL 50 yX7_addEvent, Cond.instanceMethod yX7_addEvent, Cond.selects RX7 yX7_addEvent yX7_addEvent, Cond.initialized RX7, Cond.code yX7_addEvent cX7_addEvent 3 (some .int), Cond.classLink RX7 82 "java/lang/IllegalArgumentException", Cond.initialized "java/lang/IllegalArgumentException", Cond.classLink RX7 123 "java/lang/IllegalStateException", Cond.initialized "java/lang/IllegalStateException", Cond.fieldLink RX7 69 "SleepPlanner" "now" "I", Cond.fieldLink RX7 34 "SleepPlanner" "events" "LSleepPlanner$Jobs;", Cond.methodLink RX7 78 yX7_isWithin, Cond.static yX7_isWithin, Cond.code yX7_isWithin cX7_isWithin 3 (some .boolean), Cond.methodLink RX7 167 yX3_isFull, Cond.instanceMethod yX3_isFull, Cond.selects RX3 yX3_isFull yX3_isFull, Cond.initialized RX3, Cond.code yX3_isFull cX3_isFull 1 (some .boolean), Cond.fieldLink RX3 21 "SleepPlanner$Jobs" "count" "I", Cond.methodLink RX7 170 yX3_add, Cond.instanceMethod yX3_add]
def wsL_addEvent_r2 : List Cond := [Cond.selects RX3 yX3_add yX3_add, Cond.code yX3_add cX3_add 4 (some .int), Cond.fieldLink RX3 11 "SleepPlanner$Jobs" "due" "[I", Cond.fieldLink RX3 15 "SleepPlanner$Jobs" "latest" "[I", Cond.fieldLink RX3 18 "SleepPlanner$Jobs" "work" "[I", Cond.methodLink RX3 25 yX3_isFull]
def wsL_addEvent : List Cond := .codeWith yL_addEvent cL_addEvent 5 (some .int) [(0, 10, 13, 13), (0, 10, 17, 29)] :: ((wsL_addEvent_r1 ++ wsL_addEvent_r2) ++ wsX70 ++ wsX30 ++ (vx_atS RX7 86 "java/lang/IllegalArgumentException" ["java/lang/RuntimeException", "java/lang/Exception"]).filter goodWord ++ (vx_atS RX7 127 "java/lang/IllegalStateException" ["java/lang/RuntimeException", "java/lang/Exception"]).filter goodWord)
def wsL_setRule_r1 : List Cond := [Cond.classLink RL 13 "java/lang/IllegalArgumentException", Cond.methodLink RL 53 yX7_setRule, Cond.instanceMethod yX7_setRule, Cond.selects RX7 yX7_setRule yX7_setRule, Cond.initialized RX7, Cond.code yX7_setRule cX7_setRule 3 (some .int), Cond.classLink RX7 82 "java/lang/IllegalArgumentException", Cond.initialized "java/lang/IllegalArgumentException", Cond.fieldLink RX7 65 "SleepPlanner" "rule" "I", Cond.methodLink RX7 78 yX7_isWithin, Cond.static yX7_isWithin, Cond.code yX7_isWithin cX7_isWithin 3 (some .boolean), Cond.methodLink RX7 89 yX7_wakeForCall, Cond.instanceMethod yX7_wakeForCall, Cond.selects RX7 yX7_wakeForCall yX7_wakeForCall, Cond.code yX7_wakeForCall cX7_wakeForCall 1 none, Cond.fieldLink RX7 72 "SleepPlanner" "state" "I", Cond.fieldLink RX7 47 "SleepPlanner" "ledger" "LSleepPlanner$Ledger;", Cond.fieldLink RX7 10 "SleepPlanner" "states" "LSleepPlanner$States;", Cond.methodLink RX7 283 yX6_wakingCost, Cond.instanceMethod yX6_wakingCost, Cond.selects RX6 yX6_wakingCost yX6_wakingCost, Cond.initialized RX6, Cond.code yX6_wakingCost cX6_wakingCost 2 (some .int)]
def wsL_setRule_r2 : List Cond := [Cond.methodLink RX6 29 yX6_powerOf, Cond.instanceMethod yX6_powerOf, Cond.selects RX6 yX6_powerOf yX6_powerOf, Cond.code yX6_powerOf cX6_powerOf 2 (some .int), Cond.fieldLink RX6 9 "SleepPlanner$States" "power" "[I", Cond.static yX7_read, Cond.code yX7_read cX7_read 2 (some .int), Cond.methodLink RX6 33 yX6_latencyOf, Cond.instanceMethod yX6_latencyOf, Cond.selects RX6 yX6_latencyOf yX6_latencyOf, Cond.code yX6_latencyOf cX6_latencyOf 2 (some .int), Cond.fieldLink RX6 18 "SleepPlanner$States" "latency" "[I", Cond.methodLink RX7 262 yX4_spend, Cond.instanceMethod yX4_spend, Cond.selects RX4 yX4_spend yX4_spend, Cond.initialized RX4, Cond.code yX4_spend cX4_spend 3 none, Cond.fieldLink RX4 15 "SleepPlanner$Ledger" "spent" "J", Cond.fieldLink RX4 19 "SleepPlanner$Ledger" "unpaid" "J", Cond.methodLink RX7 289 yX7_endIdleTime, Cond.instanceMethod yX7_endIdleTime, Cond.selects RX7 yX7_endIdleTime yX7_endIdleTime, Cond.code yX7_endIdleTime cX7_endIdleTime 1 none, Cond.fieldLink RX7 40 "SleepPlanner" "idleTimes" "LSleepPlanner$IdleTimes;"]
def wsL_setRule_r3 : List Cond := [Cond.fieldLink RX7 69 "SleepPlanner" "now" "I", Cond.fieldLink RX7 75 "SleepPlanner" "asleepSince" "I", Cond.methodLink RX7 292 yX2_remember, Cond.instanceMethod yX2_remember, Cond.selects RX2 yX2_remember yX2_remember, Cond.initialized RX2, Cond.code yX2_remember cX2_remember 3 none, Cond.fieldLink RX2 11 "SleepPlanner$IdleTimes" "lengths" "[I", Cond.fieldLink RX2 15 "SleepPlanner$IdleTimes" "count" "I", Cond.methodLink RX2 19 Lib.Math.min.name, Cond.static Lib.Math.min.name, Cond.initialized "java/lang/Math", Cond.code Lib.Math.min.name Lib.Math.min.code 2 (some .int)]
def wsL_setRule : List Cond := .codeWith yL_setRule cL_setRule 4 (some .int) [(0, 9, 12, 13)] :: ((wsL_setRule_r1 ++ (wsL_setRule_r2 ++ wsL_setRule_r3)) ++ wsX70 ++ wsX60 ++ wsX40 ++ wsX20 ++ (vx_atS RX7 86 "java/lang/IllegalArgumentException" ["java/lang/RuntimeException", "java/lang/Exception"]).filter goodWord)
def wsL_play_r1 : List Cond := [Cond.classLink RL 13 "java/lang/IllegalArgumentException", Cond.methodLink RL 56 yX7_play, Cond.instanceMethod yX7_play, Cond.selects RX7 yX7_play yX7_play, Cond.initialized RX7, Cond.code yX7_play cX7_play 3 (some .int), Cond.classLink RX7 82 "java/lang/IllegalArgumentException", Cond.initialized "java/lang/IllegalArgumentException", Cond.fieldLink RX7 69 "SleepPlanner" "now" "I", Cond.methodLink RX7 78 yX7_isWithin, Cond.static yX7_isWithin, Cond.code yX7_isWithin cX7_isWithin 3 (some .boolean), Cond.methodLink RX7 186 yX7_playTick, Cond.instanceMethod yX7_playTick, Cond.selects RX7 yX7_playTick yX7_playTick, Cond.code yX7_playTick cX7_playTick 1 none, Cond.fieldLink RX7 72 "SleepPlanner" "state" "I", Cond.fieldLink RX7 47 "SleepPlanner" "ledger" "LSleepPlanner$Ledger;", Cond.fieldLink RX7 54 "SleepPlanner" "battery" "LSleepPlanner$Battery;", Cond.methodLink RX7 243 yX7_wakeIfCalledFor, Cond.instanceMethod yX7_wakeIfCalledFor, Cond.selects RX7 yX7_wakeIfCalledFor yX7_wakeIfCalledFor, Cond.code yX7_wakeIfCalledFor cX7_wakeIfCalledFor 2 none, Cond.fieldLink RX7 34 "SleepPlanner" "events" "LSleepPlanner$Jobs;"]
def wsL_play_r2 : List Cond := [Cond.fieldLink RX7 10 "SleepPlanner" "states" "LSleepPlanner$States;", Cond.methodLink RX7 277 yX7_ticksToWakeup, Cond.instanceMethod yX7_ticksToWakeup, Cond.selects RX7 yX7_ticksToWakeup yX7_ticksToWakeup, Cond.code yX7_ticksToWakeup cX7_ticksToWakeup 2 (some .int), Cond.constant RX7 180 (1000000000), Cond.methodLink RX7 311 yX7_nextWakeup, Cond.instanceMethod yX7_nextWakeup, Cond.selects RX7 yX7_nextWakeup yX7_nextWakeup, Cond.code yX7_nextWakeup cX7_nextWakeup 1 (some .int), Cond.fieldLink RX7 30 "SleepPlanner" "timers" "LSleepPlanner$Jobs;", Cond.methodLink RX7 181 yX3_leastLatest, Cond.instanceMethod yX3_leastLatest, Cond.selects RX3 yX3_leastLatest yX3_leastLatest, Cond.initialized RX3, Cond.code yX3_leastLatest cX3_leastLatest 6 (some .int), Cond.fieldLink RX3 21 "SleepPlanner$Jobs" "count" "I", Cond.fieldLink RX3 11 "SleepPlanner$Jobs" "due" "[I", Cond.fieldLink RX3 15 "SleepPlanner$Jobs" "latest" "[I", Cond.methodLink RX7 280 yX3_isAnyDue, Cond.instanceMethod yX3_isAnyDue, Cond.selects RX3 yX3_isAnyDue yX3_isAnyDue, Cond.code yX3_isAnyDue cX3_isAnyDue 3 (some .boolean), Cond.methodLink RX7 283 yX6_wakingCost]
def wsL_play_r3 : List Cond := [Cond.instanceMethod yX6_wakingCost, Cond.selects RX6 yX6_wakingCost yX6_wakingCost, Cond.initialized RX6, Cond.code yX6_wakingCost cX6_wakingCost 2 (some .int), Cond.methodLink RX6 29 yX6_powerOf, Cond.instanceMethod yX6_powerOf, Cond.selects RX6 yX6_powerOf yX6_powerOf, Cond.code yX6_powerOf cX6_powerOf 2 (some .int), Cond.fieldLink RX6 9 "SleepPlanner$States" "power" "[I", Cond.static yX7_read, Cond.code yX7_read cX7_read 2 (some .int), Cond.methodLink RX6 33 yX6_latencyOf, Cond.instanceMethod yX6_latencyOf, Cond.selects RX6 yX6_latencyOf yX6_latencyOf, Cond.code yX6_latencyOf cX6_latencyOf 2 (some .int), Cond.fieldLink RX6 18 "SleepPlanner$States" "latency" "[I", Cond.methodLink RX7 262 yX4_spend, Cond.instanceMethod yX4_spend, Cond.selects RX4 yX4_spend yX4_spend, Cond.initialized RX4, Cond.code yX4_spend cX4_spend 3 none, Cond.fieldLink RX4 15 "SleepPlanner$Ledger" "spent" "J", Cond.fieldLink RX4 19 "SleepPlanner$Ledger" "unpaid" "J", Cond.methodLink RX7 286 yX6_latencyOf]
def wsL_play_r4 : List Cond := [Cond.methodLink RX7 289 yX7_endIdleTime, Cond.instanceMethod yX7_endIdleTime, Cond.selects RX7 yX7_endIdleTime yX7_endIdleTime, Cond.code yX7_endIdleTime cX7_endIdleTime 1 none, Cond.fieldLink RX7 40 "SleepPlanner" "idleTimes" "LSleepPlanner$IdleTimes;", Cond.fieldLink RX7 75 "SleepPlanner" "asleepSince" "I", Cond.methodLink RX7 292 yX2_remember, Cond.instanceMethod yX2_remember, Cond.selects RX2 yX2_remember yX2_remember, Cond.initialized RX2, Cond.code yX2_remember cX2_remember 3 none, Cond.fieldLink RX2 11 "SleepPlanner$IdleTimes" "lengths" "[I", Cond.fieldLink RX2 15 "SleepPlanner$IdleTimes" "count" "I", Cond.methodLink RX2 19 Lib.Math.min.name, Cond.static Lib.Math.min.name, Cond.initialized "java/lang/Math", Cond.code Lib.Math.min.name Lib.Math.min.code 2 (some .int), Cond.methodLink RX7 246 yX7_serveWhatIsDue, Cond.instanceMethod yX7_serveWhatIsDue, Cond.selects RX7 yX7_serveWhatIsDue yX7_serveWhatIsDue, Cond.code yX7_serveWhatIsDue cX7_serveWhatIsDue 2 none, Cond.methodLink RX7 295 yX3_takeDue, Cond.instanceMethod yX3_takeDue, Cond.selects RX3 yX3_takeDue yX3_takeDue]
def wsL_play_r5 : List Cond := [Cond.code yX3_takeDue cX3_takeDue 5 (some .int), Cond.fieldLink RX3 18 "SleepPlanner$Jobs" "work" "[I", Cond.methodLink RX7 98 yX6_powerOf, Cond.methodLink RX7 249 yX7_chooseState, Cond.instanceMethod yX7_chooseState, Cond.selects RX7 yX7_chooseState yX7_chooseState, Cond.code yX7_chooseState cX7_chooseState 2 (some .int), Cond.fieldLink RX7 65 "SleepPlanner" "rule" "I", Cond.methodLink RX7 155 Lib.Math.min.name, Cond.methodLink RX7 233 yX7_depth, Cond.instanceMethod yX7_depth, Cond.selects RX7 yX7_depth yX7_depth, Cond.code yX7_depth cX7_depth 3 (some .int), Cond.fieldLink RX7 23 "SleepPlanner" "clocks" "LSleepPlanner$Clocks;", Cond.fieldLink RX7 16 "SleepPlanner" "votes" "[I", Cond.methodLink RX7 151 yX1_leastDeepest, Cond.instanceMethod yX1_leastDeepest, Cond.selects RX1 yX1_leastDeepest yX1_leastDeepest, Cond.initialized RX1, Cond.code yX1_leastDeepest cX1_leastDeepest 3 (some .int), Cond.fieldLink RX1 28 "SleepPlanner$Clocks" "count" "I", Cond.fieldLink RX1 24 "SleepPlanner$Clocks" "running" "[Z", Cond.fieldLink RX1 18 "SleepPlanner$Clocks" "deepest" "[I", Cond.methodLink RX1 55 Lib.Math.min.name]
def wsL_play_r6 : List Cond := [Cond.methodLink RX1 48 yX1_markRunning, Cond.instanceMethod yX1_markRunning, Cond.selects RX1 yX1_markRunning yX1_markRunning, Cond.code yX1_markRunning cX1_markRunning 2 none, Cond.fieldLink RX1 21 "SleepPlanner$Clocks" "uses" "[I", Cond.fieldLink RX1 11 "SleepPlanner$Clocks" "parent" "[I", Cond.methodLink RX1 51 yX1_has, Cond.instanceMethod yX1_has, Cond.selects RX1 yX1_has yX1_has, Cond.code yX1_has cX1_has 2 (some .boolean), Cond.methodLink RX7 298 yX6_deepestThatWakes, Cond.instanceMethod yX6_deepestThatWakes, Cond.selects RX6 yX6_deepestThatWakes yX6_deepestThatWakes, Cond.code yX6_deepestThatWakes cX6_deepestThatWakes 4 (some .int), Cond.methodLink RX7 302 yX2_mean, Cond.instanceMethod yX2_mean, Cond.selects RX2 yX2_mean yX2_mean, Cond.code yX2_mean cX2_mean 3 (some .int), Cond.constant RX2 25 (1000000000), Cond.methodLink RX7 305 yX6_deepestWorthwhile, Cond.instanceMethod yX6_deepestWorthwhile, Cond.selects RX6 yX6_deepestWorthwhile yX6_deepestWorthwhile, Cond.code yX6_deepestWorthwhile cX6_deepestWorthwhile 5 (some .int), Cond.methodLink RX6 42 yX6_leastWorthwhile]
def wsL_play_r7 : List Cond := [Cond.instanceMethod yX6_leastWorthwhile, Cond.selects RX6 yX6_leastWorthwhile yX6_leastWorthwhile, Cond.code yX6_leastWorthwhile cX6_leastWorthwhile 4 (some .int), Cond.methodLink RX6 36 yX6_costOf, Cond.instanceMethod yX6_costOf, Cond.selects RX6 yX6_costOf yX6_costOf, Cond.code yX6_costOf cX6_costOf 2 (some .int), Cond.fieldLink RX6 15 "SleepPlanner$States" "cost" "[I", Cond.methodLink RX7 252 yX7_fallAsleep, Cond.instanceMethod yX7_fallAsleep, Cond.selects RX7 yX7_fallAsleep yX7_fallAsleep, Cond.code yX7_fallAsleep cX7_fallAsleep 2 none, Cond.methodLink RX7 308 yX6_costOf, Cond.methodLink RX7 256 yX4_countTick, Cond.instanceMethod yX4_countTick, Cond.selects RX4 yX4_countTick yX4_countTick, Cond.code yX4_countTick cX4_countTick 2 none, Cond.fieldLink RX4 9 "SleepPlanner$Ledger" "ticksIn" "[I", Cond.static yX7_exchange, Cond.code yX7_exchange cX7_exchange 4 (some .int), Cond.methodLink RX7 259 yX7_powerOfTick, Cond.instanceMethod yX7_powerOfTick, Cond.selects RX7 yX7_powerOfTick yX7_powerOfTick, Cond.code yX7_powerOfTick cX7_powerOfTick 2 (some .int)]
def wsL_play_r8 : List Cond := [Cond.methodLink RX7 266 yJ9_floorMod_7cf53, Cond.static yJ9_floorMod_7cf53, Cond.initialized RJ9, Cond.code yJ9_floorMod_7cf53 cJ9_floorMod_7cf53 3 (some .int), Cond.methodLink RX7 269 yX4_takeUnpaid, Cond.instanceMethod yX4_takeUnpaid, Cond.selects RX4 yX4_takeUnpaid yX4_takeUnpaid, Cond.code yX4_takeUnpaid cX4_takeUnpaid 3 (some .long), Cond.methodLink RX7 273 yX0_takeTick, Cond.instanceMethod yX0_takeTick, Cond.selects RX0 yX0_takeTick yX0_takeTick, Cond.initialized RX0, Cond.code yX0_takeTick cX0_takeTick 6 none, Cond.fieldLink RX0 16 "SleepPlanner$Battery" "available" "I", Cond.fieldLink RX0 9 "SleepPlanner$Battery" "harvest" "[I", Cond.fieldLink RX0 24 "SleepPlanner$Battery" "shortTicks" "I", Cond.constantLong RX0 31 (50000), Cond.methodLink RX0 33 Lib.MathLoose.min_long.x, Cond.static Lib.MathLoose.min_long.x, Cond.code Lib.MathLoose.min_long.x Lib.MathLoose.min_long.code 4 (some .long), Cond.methodLink RX0 39 Lib.MathLoose.max_long.x, Cond.static Lib.MathLoose.max_long.x, Cond.code Lib.MathLoose.max_long.x Lib.MathLoose.max_long.code 4 (some .long), Cond.methodLink RX0 42 yX0_balance]
def wsL_play_r9 : List Cond := [Cond.instanceMethod yX0_balance, Cond.selects RX0 yX0_balance yX0_balance, Cond.code yX0_balance cX0_balance 2 none, Cond.fieldLink RX0 21 "SleepPlanner$Battery" "bound" "I", Cond.constant RX0 15 (50000), Cond.methodLink RX0 49 Lib.Math.min.name, Cond.constant RX0 20 (100000), Cond.methodLink RX0 45 yJ9_floorDiv_7cf53, Cond.static yJ9_floorDiv_7cf53, Cond.code yJ9_floorDiv_7cf53 cJ9_floorDiv_7cf53 3 (some .int)]
def wsL_play : List Cond := .codeWith yL_play cL_play 4 (some .int) [(0, 9, 12, 13)] :: ((wsL_play_r1 ++ (wsL_play_r2 ++ (wsL_play_r3 ++ (wsL_play_r4 ++ (wsL_play_r5 ++ (wsL_play_r6 ++ (wsL_play_r7 ++ (wsL_play_r8 ++ wsL_play_r9)))))))) ++ wsX70 ++ wsX40 ++ wsX30 ++ wsX60 ++ wsX20 ++ wsX10 ++ wsX00 ++ (vx_atS RX7 86 "java/lang/IllegalArgumentException" ["java/lang/RuntimeException", "java/lang/Exception"]).filter goodWord)
def wsL_ticksIn : List Cond := .codeWith yL_ticksIn cL_ticksIn 4 (some .int) [(0, 9, 12, 13)] :: ([.classLink RL 13 "java/lang/IllegalArgumentException", .methodLink RL 59 yX7_ticksIn, .instanceMethod yX7_ticksIn, .selects RX7 yX7_ticksIn yX7_ticksIn, .initialized RX7, .code yX7_ticksIn cX7_ticksIn 2 (some .int), .classLink RX7 82 "java/lang/IllegalArgumentException", .initialized "java/lang/IllegalArgumentException", .fieldLink RX7 47 "SleepPlanner" "ledger" "LSleepPlanner$Ledger;", .methodLink RX7 78 yX7_isWithin, .static yX7_isWithin, .code yX7_isWithin cX7_isWithin 3 (some .boolean), .methodLink RX7 196 yX7_read, .static yX7_read, .code yX7_read cX7_read 2 (some .int)] ++ wsX70 ++ wsX40 ++ (vx_atS RX7 86 "java/lang/IllegalArgumentException" ["java/lang/RuntimeException", "java/lang/Exception"]).filter goodWord)
def wsL_setHarvest : List Cond := .codeWith yL_setHarvest cL_setHarvest 5 (some .int) [(0, 10, 13, 13)] :: ([.classLink RL 13 "java/lang/IllegalArgumentException", .methodLink RL 62 yX7_setHarvest, .instanceMethod yX7_setHarvest, .selects RX7 yX7_setHarvest yX7_setHarvest, .initialized RX7, .code yX7_setHarvest cX7_setHarvest 3 (some .int), .classLink RX7 82 "java/lang/IllegalArgumentException", .initialized "java/lang/IllegalArgumentException", .fieldLink RX7 54 "SleepPlanner" "battery" "LSleepPlanner$Battery;", .methodLink RX7 78 yX7_isWithin, .static yX7_isWithin, .code yX7_isWithin cX7_isWithin 3 (some .boolean), .methodLink RX7 104 yX7_exchange, .static yX7_exchange, .code yX7_exchange cX7_exchange 4 (some .int)] ++ wsX70 ++ wsX00 ++ (vx_atS RX7 86 "java/lang/IllegalArgumentException" ["java/lang/RuntimeException", "java/lang/Exception"]).filter goodWord)
def wsL_plannedWakeups_r1 : List Cond := [Cond.classLink RL 13 "java/lang/IllegalArgumentException", Cond.methodLink RL 65 yX7_plannedWakeups, Cond.instanceMethod yX7_plannedWakeups, Cond.selects RX7 yX7_plannedWakeups yX7_plannedWakeups, Cond.initialized RX7, Cond.code yX7_plannedWakeups cX7_plannedWakeups 2 (some .int), Cond.classLink RX7 82 "java/lang/IllegalArgumentException", Cond.initialized "java/lang/IllegalArgumentException", Cond.fieldLink RX7 69 "SleepPlanner" "now" "I", Cond.fieldLink RX7 61 "SleepPlanner" "plans" "LSleepPlanner$Plans;", Cond.fieldLink RX7 30 "SleepPlanner" "timers" "LSleepPlanner$Jobs;", Cond.methodLink RX7 78 yX7_isWithin, Cond.static yX7_isWithin, Cond.code yX7_isWithin cX7_isWithin 3 (some .boolean), Cond.methodLink RX7 225 yX5_countPlanned, Cond.instanceMethod yX5_countPlanned, Cond.selects RX5 yX5_countPlanned yX5_countPlanned, Cond.initialized RX5, Cond.code yX5_countPlanned cX5_countPlanned 5 (some .int), Cond.methodLink RX5 18 yX3_leastLatest, Cond.instanceMethod yX3_leastLatest, Cond.selects RX3 yX3_leastLatest yX3_leastLatest, Cond.initialized RX3, Cond.code yX3_leastLatest cX3_leastLatest 6 (some .int)]
def wsL_plannedWakeups_r2 : List Cond := [Cond.fieldLink RX3 21 "SleepPlanner$Jobs" "count" "I", Cond.fieldLink RX3 11 "SleepPlanner$Jobs" "due" "[I", Cond.fieldLink RX3 15 "SleepPlanner$Jobs" "latest" "[I"]
def wsL_plannedWakeups : List Cond := .codeWith yL_plannedWakeups cL_plannedWakeups 4 (some .int) [(0, 9, 12, 13)] :: ((wsL_plannedWakeups_r1 ++ wsL_plannedWakeups_r2) ++ wsX70 ++ wsX30 ++ (vx_atS RX7 86 "java/lang/IllegalArgumentException" ["java/lang/RuntimeException", "java/lang/Exception"]).filter goodWord)
def wsL_fewestWakeups_r1 : List Cond := [Cond.classLink RL 13 "java/lang/IllegalArgumentException", Cond.methodLink RL 68 yX7_fewestWakeups, Cond.instanceMethod yX7_fewestWakeups, Cond.selects RX7 yX7_fewestWakeups yX7_fewestWakeups, Cond.initialized RX7, Cond.code yX7_fewestWakeups cX7_fewestWakeups 2 (some .int), Cond.classLink RX7 82 "java/lang/IllegalArgumentException", Cond.initialized "java/lang/IllegalArgumentException", Cond.fieldLink RX7 69 "SleepPlanner" "now" "I", Cond.fieldLink RX7 61 "SleepPlanner" "plans" "LSleepPlanner$Plans;", Cond.fieldLink RX7 30 "SleepPlanner" "timers" "LSleepPlanner$Jobs;", Cond.methodLink RX7 78 yX7_isWithin, Cond.static yX7_isWithin, Cond.code yX7_isWithin cX7_isWithin 3 (some .boolean), Cond.methodLink RX7 229 yX5_countFewest, Cond.instanceMethod yX5_countFewest, Cond.selects RX5 yX5_countFewest yX5_countFewest, Cond.initialized RX5, Cond.code yX5_countFewest cX5_countFewest 5 (some .int), Cond.fieldLink RX5 11 "SleepPlanner$Plans" "stepCost" "[J", Cond.methodLink RX5 37 yX5_leastSum, Cond.instanceMethod yX5_leastSum, Cond.selects RX5 yX5_leastSum yX5_leastSum, Cond.code yX5_leastSum cX5_leastSum 7 (some .long)]
def wsL_fewestWakeups_r2 : List Cond := [Cond.fieldLink RX5 15 "SleepPlanner$Plans" "leastTo" "[J", Cond.methodLink RX5 44 yX5_earliestBefore, Cond.instanceMethod yX5_earliestBefore, Cond.selects RX5 yX5_earliestBefore yX5_earliestBefore, Cond.code yX5_earliestBefore cX5_earliestBefore 6 (some .int), Cond.methodLink RX5 56 Lib.Math.max.name, Cond.static Lib.Math.max.name, Cond.initialized "java/lang/Math", Cond.code Lib.Math.max.name Lib.Math.max.code 2 (some .int), Cond.methodLink RX5 52 yX3_greatestDue, Cond.instanceMethod yX3_greatestDue, Cond.selects RX3 yX3_greatestDue yX3_greatestDue, Cond.initialized RX3, Cond.code yX3_greatestDue cX3_greatestDue 4 (some .int), Cond.fieldLink RX3 21 "SleepPlanner$Jobs" "count" "I", Cond.fieldLink RX3 15 "SleepPlanner$Jobs" "latest" "[I", Cond.fieldLink RX3 11 "SleepPlanner$Jobs" "due" "[I", Cond.methodLink RX3 29 Lib.Math.max.name, Cond.methodLink RX5 48 yX5_leastSumTo, Cond.instanceMethod yX5_leastSumTo, Cond.selects RX5 yX5_leastSumTo yX5_leastSumTo, Cond.code yX5_leastSumTo cX5_leastSumTo 8 (some .long), Cond.constantLong RX5 61 (1000000000000)]
def wsL_fewestWakeups : List Cond := .codeWith yL_fewestWakeups cL_fewestWakeups 4 (some .int) [(0, 9, 12, 13)] :: ((wsL_fewestWakeups_r1 ++ wsL_fewestWakeups_r2) ++ wsX70 ++ wsX50 ++ wsX30 ++ (vx_atS RX7 86 "java/lang/IllegalArgumentException" ["java/lang/RuntimeException", "java/lang/Exception"]).filter goodWord)
def wsL_plannedCost_r1 : List Cond := [Cond.classLink RL 13 "java/lang/IllegalArgumentException", Cond.methodLink RL 71 yX7_plannedCost, Cond.instanceMethod yX7_plannedCost, Cond.selects RX7 yX7_plannedCost yX7_plannedCost, Cond.initialized RX7, Cond.code yX7_plannedCost cX7_plannedCost 2 (some .long), Cond.classLink RX7 82 "java/lang/IllegalArgumentException", Cond.initialized "java/lang/IllegalArgumentException", Cond.fieldLink RX7 69 "SleepPlanner" "now" "I", Cond.fieldLink RX7 61 "SleepPlanner" "plans" "LSleepPlanner$Plans;", Cond.fieldLink RX7 30 "SleepPlanner" "timers" "LSleepPlanner$Jobs;", Cond.fieldLink RX7 10 "SleepPlanner" "states" "LSleepPlanner$States;", Cond.methodLink RX7 78 yX7_isWithin, Cond.static yX7_isWithin, Cond.code yX7_isWithin cX7_isWithin 3 (some .boolean), Cond.methodLink RX7 233 yX7_depth, Cond.instanceMethod yX7_depth, Cond.selects RX7 yX7_depth yX7_depth, Cond.code yX7_depth cX7_depth 3 (some .int), Cond.fieldLink RX7 23 "SleepPlanner" "clocks" "LSleepPlanner$Clocks;", Cond.fieldLink RX7 16 "SleepPlanner" "votes" "[I", Cond.methodLink RX7 155 Lib.Math.min.name, Cond.static Lib.Math.min.name, Cond.initialized "java/lang/Math"]
def wsL_plannedCost_r2 : List Cond := [Cond.code Lib.Math.min.name Lib.Math.min.code 2 (some .int), Cond.methodLink RX7 151 yX1_leastDeepest, Cond.instanceMethod yX1_leastDeepest, Cond.selects RX1 yX1_leastDeepest yX1_leastDeepest, Cond.initialized RX1, Cond.code yX1_leastDeepest cX1_leastDeepest 3 (some .int), Cond.fieldLink RX1 28 "SleepPlanner$Clocks" "count" "I", Cond.fieldLink RX1 24 "SleepPlanner$Clocks" "running" "[Z", Cond.fieldLink RX1 18 "SleepPlanner$Clocks" "deepest" "[I", Cond.methodLink RX1 55 Lib.Math.min.name, Cond.methodLink RX1 48 yX1_markRunning, Cond.instanceMethod yX1_markRunning, Cond.selects RX1 yX1_markRunning yX1_markRunning, Cond.code yX1_markRunning cX1_markRunning 2 none, Cond.fieldLink RX1 21 "SleepPlanner$Clocks" "uses" "[I", Cond.fieldLink RX1 11 "SleepPlanner$Clocks" "parent" "[I", Cond.methodLink RX1 51 yX1_has, Cond.instanceMethod yX1_has, Cond.selects RX1 yX1_has yX1_has, Cond.code yX1_has cX1_has 2 (some .boolean), Cond.methodLink RX7 236 yX5_sumPlanned, Cond.instanceMethod yX5_sumPlanned, Cond.selects RX5 yX5_sumPlanned yX5_sumPlanned, Cond.initialized RX5]
def wsL_plannedCost_r3 : List Cond := [Cond.code yX5_sumPlanned cX5_sumPlanned 12 (some .long), Cond.methodLink RX5 28 yX5_countPlanned, Cond.instanceMethod yX5_countPlanned, Cond.selects RX5 yX5_countPlanned yX5_countPlanned, Cond.code yX5_countPlanned cX5_countPlanned 5 (some .int), Cond.methodLink RX5 18 yX3_leastLatest, Cond.instanceMethod yX3_leastLatest, Cond.selects RX3 yX3_leastLatest yX3_leastLatest, Cond.initialized RX3, Cond.code yX3_leastLatest cX3_leastLatest 6 (some .int), Cond.fieldLink RX3 21 "SleepPlanner$Jobs" "count" "I", Cond.fieldLink RX3 11 "SleepPlanner$Jobs" "due" "[I", Cond.fieldLink RX3 15 "SleepPlanner$Jobs" "latest" "[I", Cond.methodLink RX5 32 yX6_plannedIdleCost, Cond.instanceMethod yX6_plannedIdleCost, Cond.selects RX6 yX6_plannedIdleCost yX6_plannedIdleCost, Cond.initialized RX6, Cond.code yX6_plannedIdleCost cX6_plannedIdleCost 3 (some .int), Cond.methodLink RX6 45 yX6_deepestWorthwhile, Cond.instanceMethod yX6_deepestWorthwhile, Cond.selects RX6 yX6_deepestWorthwhile yX6_deepestWorthwhile, Cond.code yX6_deepestWorthwhile cX6_deepestWorthwhile 5 (some .int), Cond.methodLink RX6 42 yX6_leastWorthwhile, Cond.instanceMethod yX6_leastWorthwhile]
def wsL_plannedCost_r4 : List Cond := [Cond.selects RX6 yX6_leastWorthwhile yX6_leastWorthwhile, Cond.code yX6_leastWorthwhile cX6_leastWorthwhile 4 (some .int), Cond.methodLink RX6 36 yX6_costOf, Cond.instanceMethod yX6_costOf, Cond.selects RX6 yX6_costOf yX6_costOf, Cond.code yX6_costOf cX6_costOf 2 (some .int), Cond.fieldLink RX6 15 "SleepPlanner$States" "cost" "[I", Cond.static yX7_read, Cond.code yX7_read cX7_read 2 (some .int), Cond.methodLink RX6 33 yX6_latencyOf, Cond.instanceMethod yX6_latencyOf, Cond.selects RX6 yX6_latencyOf yX6_latencyOf, Cond.code yX6_latencyOf cX6_latencyOf 2 (some .int), Cond.fieldLink RX6 18 "SleepPlanner$States" "latency" "[I", Cond.methodLink RX6 29 yX6_powerOf, Cond.instanceMethod yX6_powerOf, Cond.selects RX6 yX6_powerOf yX6_powerOf, Cond.code yX6_powerOf cX6_powerOf 2 (some .int), Cond.fieldLink RX6 9 "SleepPlanner$States" "power" "[I", Cond.methodLink RX6 49 yX6_idleCost, Cond.instanceMethod yX6_idleCost, Cond.selects RX6 yX6_idleCost yX6_idleCost, Cond.code yX6_idleCost cX6_idleCost 3 (some .int), Cond.methodLink RX6 39 yX6_wakingCost]
def wsL_plannedCost_r5 : List Cond := [Cond.instanceMethod yX6_wakingCost, Cond.selects RX6 yX6_wakingCost yX6_wakingCost, Cond.code yX6_wakingCost cX6_wakingCost 2 (some .int)]
def wsL_plannedCost : List Cond := .codeWith yL_plannedCost cL_plannedCost 4 (some .int) [(0, 8, 11, 13)] :: ((wsL_plannedCost_r1 ++ (wsL_plannedCost_r2 ++ (wsL_plannedCost_r3 ++ (wsL_plannedCost_r4 ++ wsL_plannedCost_r5)))) ++ wsX70 ++ wsX10 ++ wsX30 ++ wsX60 ++ (vx_atS RX7 86 "java/lang/IllegalArgumentException" ["java/lang/RuntimeException", "java/lang/Exception"]).filter goodWord)
def wsL_leastCost_r1 : List Cond := [Cond.classLink RL 13 "java/lang/IllegalArgumentException", Cond.methodLink RL 75 yX7_leastCost, Cond.instanceMethod yX7_leastCost, Cond.selects RX7 yX7_leastCost yX7_leastCost, Cond.initialized RX7, Cond.code yX7_leastCost cX7_leastCost 2 (some .long), Cond.classLink RX7 82 "java/lang/IllegalArgumentException", Cond.initialized "java/lang/IllegalArgumentException", Cond.fieldLink RX7 69 "SleepPlanner" "now" "I", Cond.fieldLink RX7 61 "SleepPlanner" "plans" "LSleepPlanner$Plans;", Cond.fieldLink RX7 30 "SleepPlanner" "timers" "LSleepPlanner$Jobs;", Cond.fieldLink RX7 10 "SleepPlanner" "states" "LSleepPlanner$States;", Cond.methodLink RX7 78 yX7_isWithin, Cond.static yX7_isWithin, Cond.code yX7_isWithin cX7_isWithin 3 (some .boolean), Cond.methodLink RX7 233 yX7_depth, Cond.instanceMethod yX7_depth, Cond.selects RX7 yX7_depth yX7_depth, Cond.code yX7_depth cX7_depth 3 (some .int), Cond.fieldLink RX7 23 "SleepPlanner" "clocks" "LSleepPlanner$Clocks;", Cond.fieldLink RX7 16 "SleepPlanner" "votes" "[I", Cond.methodLink RX7 155 Lib.Math.min.name, Cond.static Lib.Math.min.name, Cond.initialized "java/lang/Math"]
def wsL_leastCost_r2 : List Cond := [Cond.code Lib.Math.min.name Lib.Math.min.code 2 (some .int), Cond.methodLink RX7 151 yX1_leastDeepest, Cond.instanceMethod yX1_leastDeepest, Cond.selects RX1 yX1_leastDeepest yX1_leastDeepest, Cond.initialized RX1, Cond.code yX1_leastDeepest cX1_leastDeepest 3 (some .int), Cond.fieldLink RX1 28 "SleepPlanner$Clocks" "count" "I", Cond.fieldLink RX1 24 "SleepPlanner$Clocks" "running" "[Z", Cond.fieldLink RX1 18 "SleepPlanner$Clocks" "deepest" "[I", Cond.methodLink RX1 55 Lib.Math.min.name, Cond.methodLink RX1 48 yX1_markRunning, Cond.instanceMethod yX1_markRunning, Cond.selects RX1 yX1_markRunning yX1_markRunning, Cond.code yX1_markRunning cX1_markRunning 2 none, Cond.fieldLink RX1 21 "SleepPlanner$Clocks" "uses" "[I", Cond.fieldLink RX1 11 "SleepPlanner$Clocks" "parent" "[I", Cond.methodLink RX1 51 yX1_has, Cond.instanceMethod yX1_has, Cond.selects RX1 yX1_has yX1_has, Cond.code yX1_has cX1_has 2 (some .boolean), Cond.methodLink RX7 240 yX5_sumLeast, Cond.instanceMethod yX5_sumLeast, Cond.selects RX5 yX5_sumLeast yX5_sumLeast, Cond.initialized RX5]
def wsL_leastCost_r3 : List Cond := [Cond.code yX5_sumLeast cX5_sumLeast 7 (some .long), Cond.fieldLink RX5 11 "SleepPlanner$Plans" "stepCost" "[J", Cond.methodLink RX5 41 yX6_leastIdleCost, Cond.instanceMethod yX6_leastIdleCost, Cond.selects RX6 yX6_leastIdleCost yX6_leastIdleCost, Cond.initialized RX6, Cond.code yX6_leastIdleCost cX6_leastIdleCost 5 (some .int), Cond.methodLink RX6 52 Lib.Math.min.name, Cond.methodLink RX6 49 yX6_idleCost, Cond.instanceMethod yX6_idleCost, Cond.selects RX6 yX6_idleCost yX6_idleCost, Cond.code yX6_idleCost cX6_idleCost 3 (some .int), Cond.methodLink RX6 36 yX6_costOf, Cond.instanceMethod yX6_costOf, Cond.selects RX6 yX6_costOf yX6_costOf, Cond.code yX6_costOf cX6_costOf 2 (some .int), Cond.fieldLink RX6 15 "SleepPlanner$States" "cost" "[I", Cond.static yX7_read, Cond.code yX7_read cX7_read 2 (some .int), Cond.methodLink RX6 29 yX6_powerOf, Cond.instanceMethod yX6_powerOf, Cond.selects RX6 yX6_powerOf yX6_powerOf, Cond.code yX6_powerOf cX6_powerOf 2 (some .int), Cond.fieldLink RX6 9 "SleepPlanner$States" "power" "[I"]
def wsL_leastCost_r4 : List Cond := [Cond.methodLink RX6 33 yX6_latencyOf, Cond.instanceMethod yX6_latencyOf, Cond.selects RX6 yX6_latencyOf yX6_latencyOf, Cond.code yX6_latencyOf cX6_latencyOf 2 (some .int), Cond.fieldLink RX6 18 "SleepPlanner$States" "latency" "[I", Cond.methodLink RX6 39 yX6_wakingCost, Cond.instanceMethod yX6_wakingCost, Cond.selects RX6 yX6_wakingCost yX6_wakingCost, Cond.code yX6_wakingCost cX6_wakingCost 2 (some .int), Cond.methodLink RX5 37 yX5_leastSum, Cond.instanceMethod yX5_leastSum, Cond.selects RX5 yX5_leastSum yX5_leastSum, Cond.code yX5_leastSum cX5_leastSum 7 (some .long), Cond.fieldLink RX5 15 "SleepPlanner$Plans" "leastTo" "[J", Cond.methodLink RX5 44 yX5_earliestBefore, Cond.instanceMethod yX5_earliestBefore, Cond.selects RX5 yX5_earliestBefore yX5_earliestBefore, Cond.code yX5_earliestBefore cX5_earliestBefore 6 (some .int), Cond.methodLink RX5 56 Lib.Math.max.name, Cond.static Lib.Math.max.name, Cond.code Lib.Math.max.name Lib.Math.max.code 2 (some .int), Cond.methodLink RX5 52 yX3_greatestDue, Cond.instanceMethod yX3_greatestDue, Cond.selects RX3 yX3_greatestDue yX3_greatestDue]
def wsL_leastCost_r5 : List Cond := [Cond.initialized RX3, Cond.code yX3_greatestDue cX3_greatestDue 4 (some .int), Cond.fieldLink RX3 21 "SleepPlanner$Jobs" "count" "I", Cond.fieldLink RX3 15 "SleepPlanner$Jobs" "latest" "[I", Cond.fieldLink RX3 11 "SleepPlanner$Jobs" "due" "[I", Cond.methodLink RX3 29 Lib.Math.max.name, Cond.methodLink RX5 48 yX5_leastSumTo, Cond.instanceMethod yX5_leastSumTo, Cond.selects RX5 yX5_leastSumTo yX5_leastSumTo, Cond.code yX5_leastSumTo cX5_leastSumTo 8 (some .long), Cond.constantLong RX5 61 (1000000000000)]
def wsL_leastCost : List Cond := .codeWith yL_leastCost cL_leastCost 4 (some .int) [(0, 8, 11, 13)] :: ((wsL_leastCost_r1 ++ (wsL_leastCost_r2 ++ (wsL_leastCost_r3 ++ (wsL_leastCost_r4 ++ wsL_leastCost_r5)))) ++ wsX70 ++ wsX10 ++ wsX50 ++ wsX60 ++ wsX30 ++ (vx_atS RX7 86 "java/lang/IllegalArgumentException" ["java/lang/RuntimeException", "java/lang/Exception"]).filter goodWord)
def wsL_law0_r1 : List Cond := [Cond.classLink RL 8 RX7, Cond.instantiable RX7 13, Cond.initialized RX7, Cond.classLink RL 79 RX8, Cond.instantiable RX8 36, Cond.initialized RX8, Cond.arrayClass .long, Cond.methodLink RL 78 yX7_init, Cond.instanceMethod yX7_init, Cond.code yX7_init cX7_init 1 none, Cond.methodLink RX7 1 objectInit, Cond.instanceMethod objectInit, Cond.code objectInit ⟨#[0xb1]⟩ 1 none, Cond.classLink RX7 7 RX6, Cond.instantiable RX6 3, Cond.initialized RX6, Cond.fieldLink RX7 10 "SleepPlanner" "states" "LSleepPlanner$States;", Cond.arrayClass .int, Cond.fieldLink RX7 16 "SleepPlanner" "votes" "[I", Cond.classLink RX7 20 RX1, Cond.instantiable RX1 6, Cond.initialized RX1, Cond.fieldLink RX7 23 "SleepPlanner" "clocks" "LSleepPlanner$Clocks;", Cond.classLink RX7 27 RX3]
def wsL_law0_r2 : List Cond := [Cond.instantiable RX3 4, Cond.initialized RX3, Cond.fieldLink RX7 30 "SleepPlanner" "timers" "LSleepPlanner$Jobs;", Cond.fieldLink RX7 34 "SleepPlanner" "events" "LSleepPlanner$Jobs;", Cond.classLink RX7 37 RX2, Cond.instantiable RX2 2, Cond.initialized RX2, Cond.fieldLink RX7 40 "SleepPlanner" "idleTimes" "LSleepPlanner$IdleTimes;", Cond.classLink RX7 44 RX4, Cond.instantiable RX4 6, Cond.initialized RX4, Cond.fieldLink RX7 47 "SleepPlanner" "ledger" "LSleepPlanner$Ledger;", Cond.classLink RX7 51 RX0, Cond.instantiable RX0 4, Cond.initialized RX0, Cond.fieldLink RX7 54 "SleepPlanner" "battery" "LSleepPlanner$Battery;", Cond.classLink RX7 58 RX5, Cond.instantiable RX5 2, Cond.initialized RX5, Cond.fieldLink RX7 61 "SleepPlanner" "plans" "LSleepPlanner$Plans;", Cond.fieldLink RX7 65 "SleepPlanner" "rule" "I", Cond.fieldLink RX7 69 "SleepPlanner" "now" "I", Cond.fieldLink RX7 72 "SleepPlanner" "state" "I", Cond.fieldLink RX7 75 "SleepPlanner" "asleepSince" "I"]
def wsL_law0_r3 : List Cond := [Cond.methodLink RX7 9 yX6_init, Cond.instanceMethod yX6_init, Cond.code yX6_init cX6_init 1 none, Cond.methodLink RX6 3 objectInit, Cond.fieldLink RX6 9 "SleepPlanner$States" "power" "[I", Cond.fieldLink RX6 15 "SleepPlanner$States" "cost" "[I", Cond.fieldLink RX6 18 "SleepPlanner$States" "latency" "[I", Cond.methodLink RX7 22 yX1_init, Cond.instanceMethod yX1_init, Cond.code yX1_init cX1_init 1 none, Cond.methodLink RX1 3 objectInit, Cond.fieldLink RX1 11 "SleepPlanner$Clocks" "parent" "[I", Cond.fieldLink RX1 15 "SleepPlanner$Clocks" "frequency" "[I", Cond.fieldLink RX1 18 "SleepPlanner$Clocks" "deepest" "[I", Cond.fieldLink RX1 21 "SleepPlanner$Clocks" "uses" "[I", Cond.arrayClass .boolean, Cond.fieldLink RX1 24 "SleepPlanner$Clocks" "running" "[Z", Cond.fieldLink RX1 28 "SleepPlanner$Clocks" "count" "I", Cond.methodLink RX7 29 yX3_init, Cond.instanceMethod yX3_init, Cond.code yX3_init cX3_init 1 none, Cond.methodLink RX3 3 objectInit, Cond.fieldLink RX3 11 "SleepPlanner$Jobs" "due" "[I", Cond.fieldLink RX3 15 "SleepPlanner$Jobs" "latest" "[I"]
def wsL_law0_r4 : List Cond := [Cond.fieldLink RX3 18 "SleepPlanner$Jobs" "work" "[I", Cond.fieldLink RX3 21 "SleepPlanner$Jobs" "count" "I", Cond.methodLink RX7 39 yX2_init, Cond.instanceMethod yX2_init, Cond.code yX2_init cX2_init 1 none, Cond.methodLink RX2 3 objectInit, Cond.fieldLink RX2 11 "SleepPlanner$IdleTimes" "lengths" "[I", Cond.fieldLink RX2 15 "SleepPlanner$IdleTimes" "count" "I", Cond.methodLink RX7 46 yX4_init, Cond.instanceMethod yX4_init, Cond.code yX4_init cX4_init 1 none, Cond.methodLink RX4 3 objectInit, Cond.fieldLink RX4 9 "SleepPlanner$Ledger" "ticksIn" "[I", Cond.fieldLink RX4 15 "SleepPlanner$Ledger" "spent" "J", Cond.fieldLink RX4 19 "SleepPlanner$Ledger" "unpaid" "J", Cond.fieldLink RX4 22 "SleepPlanner$Ledger" "sleeps" "I", Cond.fieldLink RX4 26 "SleepPlanner$Ledger" "lateness" "I", Cond.fieldLink RX4 29 "SleepPlanner$Ledger" "served" "I", Cond.methodLink RX7 53 yX0_init, Cond.instanceMethod yX0_init, Cond.code yX0_init cX0_init 1 none, Cond.methodLink RX0 3 objectInit, Cond.fieldLink RX0 9 "SleepPlanner$Battery" "harvest" "[I", Cond.constant RX0 15 (50000)]
def wsL_law0_r5 : List Cond := [Cond.fieldLink RX0 16 "SleepPlanner$Battery" "available" "I", Cond.constant RX0 20 (100000), Cond.fieldLink RX0 21 "SleepPlanner$Battery" "bound" "I", Cond.fieldLink RX0 24 "SleepPlanner$Battery" "shortTicks" "I", Cond.methodLink RX7 60 yX5_init, Cond.instanceMethod yX5_init, Cond.code yX5_init cX5_init 1 none, Cond.methodLink RX5 3 objectInit, Cond.fieldLink RX5 11 "SleepPlanner$Plans" "stepCost" "[J", Cond.fieldLink RX5 15 "SleepPlanner$Plans" "leastTo" "[J", Cond.methodLink RL 81 yX8_init, Cond.instanceMethod yX8_init, Cond.code yX8_init cX8_init 2 none, Cond.methodLink RX8 1 objectInit, Cond.fieldLink RX8 7 "SleepPlannerModel" "power" "[I", Cond.fieldLink RX8 13 "SleepPlannerModel" "cost" "[I", Cond.fieldLink RX8 16 "SleepPlannerModel" "latency" "[I", Cond.fieldLink RX8 19 "SleepPlannerModel" "votes" "[I", Cond.fieldLink RX8 22 "SleepPlannerModel" "clocks" "I", Cond.fieldLink RX8 26 "SleepPlannerModel" "parent" "[I", Cond.fieldLink RX8 29 "SleepPlannerModel" "divider" "[I", Cond.fieldLink RX8 32 "SleepPlannerModel" "deepest" "[I", Cond.fieldLink RX8 35 "SleepPlannerModel" "uses" "[I", Cond.fieldLink RX8 38 "SleepPlannerModel" "isRunning" "[Z"]
def wsL_law0_r6 : List Cond := [Cond.fieldLink RX8 42 "SleepPlannerModel" "due" "[I", Cond.fieldLink RX8 45 "SleepPlannerModel" "latest" "[I", Cond.fieldLink RX8 48 "SleepPlannerModel" "work" "[I", Cond.fieldLink RX8 51 "SleepPlannerModel" "tick" "[I", Cond.fieldLink RX8 54 "SleepPlannerModel" "load" "[I", Cond.fieldLink RX8 57 "SleepPlannerModel" "rule" "I", Cond.fieldLink RX8 60 "SleepPlannerModel" "idle" "[I", Cond.fieldLink RX8 63 "SleepPlannerModel" "ticksIn" "[I", Cond.fieldLink RX8 66 "SleepPlannerModel" "harvest" "[I", Cond.constant RX8 69 (50000), Cond.fieldLink RX8 70 "SleepPlannerModel" "available" "I", Cond.constant RX8 73 (100000), Cond.fieldLink RX8 74 "SleepPlannerModel" "bound" "I", Cond.fieldLink RX8 77 "SleepPlannerModel" "least" "[J", Cond.fieldLink RX8 81 "SleepPlannerModel" "byLength" "[J", Cond.methodLink RL 82 yL_setState, Cond.static yL_setState, Cond.initialized RL, Cond.codeWith yL_setState cL_setState 6 (some .int) [(0, 9, 12, 13)], Cond.classLink RL 13 "java/lang/IllegalArgumentException", Cond.methodLink RL 7 yX7_setState, Cond.instanceMethod yX7_setState, Cond.selects RX7 yX7_setState yX7_setState, Cond.code yX7_setState cX7_setState 5 none]
def wsL_law0_r7 : List Cond := [Cond.classLink RX7 82 "java/lang/IllegalArgumentException", Cond.initialized "java/lang/IllegalArgumentException", Cond.methodLink RX7 78 yX7_isWithin, Cond.static yX7_isWithin, Cond.code yX7_isWithin cX7_isWithin 3 (some .boolean), Cond.methodLink RX7 89 yX7_wakeForCall, Cond.instanceMethod yX7_wakeForCall, Cond.selects RX7 yX7_wakeForCall yX7_wakeForCall, Cond.code yX7_wakeForCall cX7_wakeForCall 1 none, Cond.methodLink RX7 283 yX6_wakingCost, Cond.instanceMethod yX6_wakingCost, Cond.selects RX6 yX6_wakingCost yX6_wakingCost, Cond.code yX6_wakingCost cX6_wakingCost 2 (some .int), Cond.methodLink RX6 29 yX6_powerOf, Cond.instanceMethod yX6_powerOf, Cond.selects RX6 yX6_powerOf yX6_powerOf, Cond.code yX6_powerOf cX6_powerOf 2 (some .int), Cond.static yX7_read, Cond.code yX7_read cX7_read 2 (some .int), Cond.methodLink RX6 33 yX6_latencyOf, Cond.instanceMethod yX6_latencyOf, Cond.selects RX6 yX6_latencyOf yX6_latencyOf, Cond.code yX6_latencyOf cX6_latencyOf 2 (some .int), Cond.methodLink RX7 262 yX4_spend]
def wsL_law0_r8 : List Cond := [Cond.instanceMethod yX4_spend, Cond.selects RX4 yX4_spend yX4_spend, Cond.code yX4_spend cX4_spend 3 none, Cond.methodLink RX7 289 yX7_endIdleTime, Cond.instanceMethod yX7_endIdleTime, Cond.selects RX7 yX7_endIdleTime yX7_endIdleTime, Cond.code yX7_endIdleTime cX7_endIdleTime 1 none, Cond.methodLink RX7 292 yX2_remember, Cond.instanceMethod yX2_remember, Cond.selects RX2 yX2_remember yX2_remember, Cond.code yX2_remember cX2_remember 3 none, Cond.methodLink RX2 19 Lib.Math.min.name, Cond.static Lib.Math.min.name, Cond.initialized "java/lang/Math", Cond.code Lib.Math.min.name Lib.Math.min.code 2 (some .int), Cond.methodLink RX7 92 yX6_change, Cond.instanceMethod yX6_change, Cond.selects RX6 yX6_change yX6_change, Cond.code yX6_change cX6_change 5 none, Cond.static yX7_exchange, Cond.code yX7_exchange cX7_exchange 4 (some .int), Cond.methodLink RL 87 yX8_setState, Cond.instanceMethod yX8_setState, Cond.selects RX8 yX8_setState yX8_setState]
def wsL_law0_r9 : List Cond := [Cond.code yX8_setState cX8_setState 5 none, Cond.methodLink RX8 113 yX8_in, Cond.static yX8_in, Cond.code yX8_in cX8_in 3 (some .boolean), Cond.methodLink RX8 117 yX8_asks, Cond.instanceMethod yX8_asks, Cond.selects RX8 yX8_asks yX8_asks, Cond.code yX8_asks cX8_asks 2 (some .boolean), Cond.fieldLink RX8 84 "SleepPlannerModel" "thrown" "I", Cond.methodLink RX8 121 yX8_stirs, Cond.instanceMethod yX8_stirs, Cond.selects RX8 yX8_stirs yX8_stirs, Cond.code yX8_stirs cX8_stirs 1 none, Cond.fieldLink RX8 103 "SleepPlannerModel" "state" "I", Cond.methodLink RX8 106 yX8_spends, Cond.instanceMethod yX8_spends, Cond.selects RX8 yX8_spends yX8_spends, Cond.code yX8_spends cX8_spends 3 none, Cond.fieldLink RX8 87 "SleepPlannerModel" "spent" "J", Cond.fieldLink RX8 91 "SleepPlannerModel" "pending" "J", Cond.methodLink RX8 110 yX8_wakes, Cond.instanceMethod yX8_wakes, Cond.selects RX8 yX8_wakes yX8_wakes, Cond.code yX8_wakes cX8_wakes 1 none]
def wsL_law0_r10 : List Cond := [Cond.fieldLink RX8 94 "SleepPlannerModel" "idles" "I", Cond.fieldLink RX8 97 "SleepPlannerModel" "now" "I", Cond.fieldLink RX8 100 "SleepPlannerModel" "asleepFrom" "I", Cond.methodLink RL 88 yX8_thrown, Cond.instanceMethod yX8_thrown, Cond.selects RX8 yX8_thrown yX8_thrown, Cond.code yX8_thrown cX8_thrown 1 (some .int), Cond.methodLink RL 92 yL_setAwake, Cond.static yL_setAwake, Cond.codeWith yL_setAwake cL_setAwake 4 (some .int) [(0, 9, 12, 13)], Cond.methodLink RL 15 yX7_setAwake, Cond.instanceMethod yX7_setAwake, Cond.selects RX7 yX7_setAwake yX7_setAwake, Cond.code yX7_setAwake cX7_setAwake 3 (some .int), Cond.methodLink RX7 98 yX6_powerOf, Cond.methodLink RL 95 yX8_setAwake, Cond.instanceMethod yX8_setAwake, Cond.selects RX8 yX8_setAwake yX8_setAwake, Cond.code yX8_setAwake cX8_setAwake 3 (some .int), Cond.methodLink RL 96 yL_vote, Cond.static yL_vote, Cond.codeWith yL_vote cL_vote 5 (some .int) [(0, 10, 13, 13)], Cond.methodLink RL 19 yX7_vote, Cond.instanceMethod yX7_vote]
def wsL_law0_r11 : List Cond := [Cond.selects RX7 yX7_vote yX7_vote, Cond.code yX7_vote cX7_vote 3 (some .int), Cond.methodLink RX7 104 yX7_exchange, Cond.methodLink RL 99 yX8_vote, Cond.instanceMethod yX8_vote, Cond.selects RX8 yX8_vote yX8_vote, Cond.code yX8_vote cX8_vote 4 (some .int), Cond.methodLink RL 100 yL_addClock, Cond.static yL_addClock, Cond.codeWith yL_addClock cL_addClock 6 (some .int) [(0, 12, 15, 27), (0, 12, 19, 13), (0, 12, 23, 29)], Cond.classLink RL 27 "java/lang/IndexOutOfBoundsException", Cond.classLink RL 29 "java/lang/IllegalStateException", Cond.methodLink RL 23 yX7_addClock, Cond.instanceMethod yX7_addClock, Cond.selects RX7 yX7_addClock yX7_addClock, Cond.code yX7_addClock cX7_addClock 4 (some .int), Cond.classLink RX7 112 "java/lang/IndexOutOfBoundsException", Cond.initialized "java/lang/IndexOutOfBoundsException", Cond.classLink RX7 123 "java/lang/IllegalStateException", Cond.initialized "java/lang/IllegalStateException", Cond.methodLink RX7 108 yX1_has, Cond.instanceMethod yX1_has, Cond.selects RX1 yX1_has yX1_has, Cond.code yX1_has cX1_has 2 (some .boolean)]
def wsL_law0_r12 : List Cond := [Cond.methodLink RX7 119 yX1_isFull, Cond.instanceMethod yX1_isFull, Cond.selects RX1 yX1_isFull yX1_isFull, Cond.code yX1_isFull cX1_isFull 1 (some .boolean), Cond.methodLink RX7 128 yX1_add, Cond.instanceMethod yX1_add, Cond.selects RX1 yX1_add yX1_add, Cond.code yX1_add cX1_add 4 (some .int), Cond.methodLink RX1 32 yX1_isFull, Cond.methodLink RL 103 yX8_addClock, Cond.instanceMethod yX8_addClock, Cond.selects RX8 yX8_addClock yX8_addClock, Cond.code yX8_addClock cX8_addClock 4 (some .int), Cond.methodLink RX8 124 yX8_isClock, Cond.instanceMethod yX8_isClock, Cond.selects RX8 yX8_isClock yX8_isClock, Cond.code yX8_isClock cX8_isClock 2 (some .boolean), Cond.methodLink RX8 128 yX8_fails, Cond.instanceMethod yX8_fails, Cond.selects RX8 yX8_fails yX8_fails, Cond.code yX8_fails cX8_fails 2 (some .int), Cond.methodLink RL 104 yL_use, Cond.static yL_use, Cond.codeWith yL_use cL_use 4 (some .int) [(0, 9, 12, 27), (0, 9, 15, 29)]]
def wsL_law0_r13 : List Cond := [Cond.methodLink RL 31 yX7_use, Cond.instanceMethod yX7_use, Cond.selects RX7 yX7_use yX7_use, Cond.code yX7_use cX7_use 2 (some .int), Cond.methodLink RX7 134 yX1_usesOf, Cond.instanceMethod yX1_usesOf, Cond.selects RX1 yX1_usesOf yX1_usesOf, Cond.code yX1_usesOf cX1_usesOf 2 (some .int), Cond.methodLink RX7 139 yX1_changeUses, Cond.instanceMethod yX1_changeUses, Cond.selects RX1 yX1_changeUses yX1_changeUses, Cond.code yX1_changeUses cX1_changeUses 3 (some .int), Cond.methodLink RX1 40 yX1_usesOf, Cond.methodLink RL 106 yX8_use, Cond.instanceMethod yX8_use, Cond.selects RX8 yX8_use yX8_use, Cond.code yX8_use cX8_use 2 (some .int), Cond.methodLink RL 107 yL_release, Cond.static yL_release, Cond.codeWith yL_release cL_release 4 (some .int) [(0, 9, 12, 27), (0, 9, 15, 29)], Cond.methodLink RL 34 yX7_release, Cond.instanceMethod yX7_release, Cond.selects RX7 yX7_release yX7_release, Cond.code yX7_release cX7_release 2 (some .int)]
def wsL_law0_r14 : List Cond := [Cond.methodLink RL 109 yX8_release, Cond.instanceMethod yX8_release, Cond.selects RX8 yX8_release yX8_release, Cond.code yX8_release cX8_release 2 (some .int), Cond.methodLink RL 110 yL_runs, Cond.static yL_runs, Cond.codeWith yL_runs cL_runs 4 (some .int) [(0, 16, 19, 27)], Cond.methodLink RL 37 yX7_runs, Cond.instanceMethod yX7_runs, Cond.selects RX7 yX7_runs yX7_runs, Cond.code yX7_runs cX7_runs 2 (some .boolean), Cond.methodLink RX7 145 yX1_isRunning, Cond.instanceMethod yX1_isRunning, Cond.selects RX1 yX1_isRunning yX1_isRunning, Cond.code yX1_isRunning cX1_isRunning 2 (some .boolean), Cond.methodLink RX1 48 yX1_markRunning, Cond.instanceMethod yX1_markRunning, Cond.selects RX1 yX1_markRunning yX1_markRunning, Cond.code yX1_markRunning cX1_markRunning 2 none, Cond.methodLink RX1 51 yX1_has, Cond.methodLink RL 112 yX8_runs, Cond.instanceMethod yX8_runs, Cond.selects RX8 yX8_runs yX8_runs, Cond.code yX8_runs cX8_runs 2 (some .boolean)]
def wsL_law0_r15 : List Cond := [Cond.methodLink RX8 132 yX8_findsRunning, Cond.instanceMethod yX8_findsRunning, Cond.selects RX8 yX8_findsRunning yX8_findsRunning, Cond.code yX8_findsRunning cX8_findsRunning 2 none, Cond.methodLink RL 113 yL_frequency, Cond.static yL_frequency, Cond.codeWith yL_frequency cL_frequency 4 (some .int) [(0, 9, 12, 27)], Cond.methodLink RL 41 yX7_frequency, Cond.instanceMethod yX7_frequency, Cond.selects RX7 yX7_frequency yX7_frequency, Cond.code yX7_frequency cX7_frequency 2 (some .int), Cond.methodLink RX7 148 yX1_frequencyOf, Cond.instanceMethod yX1_frequencyOf, Cond.selects RX1 yX1_frequencyOf yX1_frequencyOf, Cond.code yX1_frequencyOf cX1_frequencyOf 2 (some .int), Cond.methodLink RL 115 yX8_frequency, Cond.instanceMethod yX8_frequency, Cond.selects RX8 yX8_frequency yX8_frequency, Cond.code yX8_frequency cX8_frequency 4 (some .int), Cond.methodLink RL 116 yX7_depth, Cond.instanceMethod yX7_depth, Cond.selects RX7 yX7_depth yX7_depth, Cond.code yX7_depth cX7_depth 3 (some .int), Cond.methodLink RX7 155 Lib.Math.min.name]
def wsL_law0_r16 : List Cond := [Cond.methodLink RX7 151 yX1_leastDeepest, Cond.instanceMethod yX1_leastDeepest, Cond.selects RX1 yX1_leastDeepest yX1_leastDeepest, Cond.code yX1_leastDeepest cX1_leastDeepest 3 (some .int), Cond.methodLink RX1 55 Lib.Math.min.name, Cond.methodLink RL 119 yX8_depth, Cond.instanceMethod yX8_depth, Cond.selects RX8 yX8_depth yX8_depth, Cond.code yX8_depth cX8_depth 1 (some .int), Cond.methodLink RX8 135 yX8_deepestNow, Cond.instanceMethod yX8_deepestNow, Cond.selects RX8 yX8_deepestNow yX8_deepestNow, Cond.code yX8_deepestNow cX8_deepestNow 3 (some .int), Cond.methodLink RL 120 yL_breakEven, Cond.static yL_breakEven, Cond.codeWith yL_breakEven cL_breakEven 4 (some .int) [(0, 9, 12, 13)], Cond.methodLink RL 44 yX7_breakEven, Cond.instanceMethod yX7_breakEven, Cond.selects RX7 yX7_breakEven yX7_breakEven, Cond.code yX7_breakEven cX7_breakEven 2 (some .int), Cond.methodLink RX7 162 yX6_leastWorthwhile, Cond.instanceMethod yX6_leastWorthwhile, Cond.selects RX6 yX6_leastWorthwhile yX6_leastWorthwhile, Cond.code yX6_leastWorthwhile cX6_leastWorthwhile 4 (some .int)]
def wsL_law0_r17 : List Cond := [Cond.methodLink RX6 36 yX6_costOf, Cond.instanceMethod yX6_costOf, Cond.selects RX6 yX6_costOf yX6_costOf, Cond.code yX6_costOf cX6_costOf 2 (some .int), Cond.methodLink RL 122 yX8_breakEven, Cond.instanceMethod yX8_breakEven, Cond.selects RX8 yX8_breakEven yX8_breakEven, Cond.code yX8_breakEven cX8_breakEven 2 (some .int), Cond.methodLink RX8 143 yX8_evenAt, Cond.instanceMethod yX8_evenAt, Cond.selects RX8 yX8_evenAt yX8_evenAt, Cond.code yX8_evenAt cX8_evenAt 3 (some .int), Cond.methodLink RX8 139 yX8_idleCost, Cond.instanceMethod yX8_idleCost, Cond.selects RX8 yX8_idleCost yX8_idleCost, Cond.code yX8_idleCost cX8_idleCost 3 (some .long), Cond.methodLink RL 123 yL_schedule, Cond.static yL_schedule, Cond.codeWith yL_schedule cL_schedule 6 (some .int) [(0, 12, 15, 13), (0, 12, 19, 29)], Cond.methodLink RL 47 yX7_schedule, Cond.instanceMethod yX7_schedule, Cond.selects RX7 yX7_schedule yX7_schedule, Cond.code yX7_schedule cX7_schedule 4 (some .int), Cond.methodLink RX7 167 yX3_isFull]
def wsL_law0_r18 : List Cond := [Cond.instanceMethod yX3_isFull, Cond.selects RX3 yX3_isFull yX3_isFull, Cond.code yX3_isFull cX3_isFull 1 (some .boolean), Cond.methodLink RX7 170 yX3_add, Cond.instanceMethod yX3_add, Cond.selects RX3 yX3_add yX3_add, Cond.code yX3_add cX3_add 4 (some .int), Cond.methodLink RX3 25 yX3_isFull, Cond.methodLink RL 125 yX8_schedule, Cond.instanceMethod yX8_schedule, Cond.selects RX8 yX8_schedule yX8_schedule, Cond.code yX8_schedule cX8_schedule 4 (some .int), Cond.fieldLink RX8 146 "SleepPlannerModel" "timers" "I", Cond.methodLink RL 126 yL_addEvent, Cond.static yL_addEvent, Cond.codeWith yL_addEvent cL_addEvent 5 (some .int) [(0, 10, 13, 13), (0, 10, 17, 29)], Cond.methodLink RL 50 yX7_addEvent, Cond.instanceMethod yX7_addEvent, Cond.selects RX7 yX7_addEvent yX7_addEvent, Cond.code yX7_addEvent cX7_addEvent 3 (some .int), Cond.methodLink RL 128 yX8_addEvent, Cond.instanceMethod yX8_addEvent, Cond.selects RX8 yX8_addEvent yX8_addEvent, Cond.code yX8_addEvent cX8_addEvent 3 (some .int)]
def wsL_law0_r19 : List Cond := [Cond.fieldLink RX8 149 "SleepPlannerModel" "events" "I", Cond.methodLink RL 129 yL_setRule, Cond.static yL_setRule, Cond.codeWith yL_setRule cL_setRule 4 (some .int) [(0, 9, 12, 13)], Cond.methodLink RL 53 yX7_setRule, Cond.instanceMethod yX7_setRule, Cond.selects RX7 yX7_setRule yX7_setRule, Cond.code yX7_setRule cX7_setRule 3 (some .int), Cond.methodLink RL 131 yX8_setRule, Cond.instanceMethod yX8_setRule, Cond.selects RX8 yX8_setRule yX8_setRule, Cond.code yX8_setRule cX8_setRule 3 (some .int), Cond.methodLink RL 132 yX7_timers, Cond.instanceMethod yX7_timers, Cond.selects RX7 yX7_timers yX7_timers, Cond.code yX7_timers cX7_timers 1 (some .int), Cond.methodLink RL 135 yX8_timers, Cond.instanceMethod yX8_timers, Cond.selects RX8 yX8_timers yX8_timers, Cond.code yX8_timers cX8_timers 1 (some .int), Cond.methodLink RL 136 yX7_nextWakeup, Cond.instanceMethod yX7_nextWakeup, Cond.selects RX7 yX7_nextWakeup yX7_nextWakeup, Cond.code yX7_nextWakeup cX7_nextWakeup 1 (some .int)]
def wsL_law0_r20 : List Cond := [Cond.constant RX7 180 (1000000000), Cond.methodLink RX7 181 yX3_leastLatest, Cond.instanceMethod yX3_leastLatest, Cond.selects RX3 yX3_leastLatest yX3_leastLatest, Cond.code yX3_leastLatest cX3_leastLatest 6 (some .int), Cond.methodLink RL 139 yX8_nextWakeup, Cond.instanceMethod yX8_nextWakeup, Cond.selects RX8 yX8_nextWakeup yX8_nextWakeup, Cond.code yX8_nextWakeup cX8_nextWakeup 1 (some .int), Cond.methodLink RX8 153 yX8_next, Cond.instanceMethod yX8_next, Cond.selects RX8 yX8_next yX8_next, Cond.code yX8_next cX8_next 3 (some .int), Cond.constant RX8 152 (1000000000), Cond.methodLink RL 140 yL_play, Cond.static yL_play, Cond.codeWith yL_play cL_play 4 (some .int) [(0, 9, 12, 13)], Cond.methodLink RL 56 yX7_play, Cond.instanceMethod yX7_play, Cond.selects RX7 yX7_play yX7_play, Cond.code yX7_play cX7_play 3 (some .int), Cond.methodLink RX7 186 yX7_playTick, Cond.instanceMethod yX7_playTick, Cond.selects RX7 yX7_playTick yX7_playTick]
def wsL_law0_r21 : List Cond := [Cond.code yX7_playTick cX7_playTick 1 none, Cond.methodLink RX7 243 yX7_wakeIfCalledFor, Cond.instanceMethod yX7_wakeIfCalledFor, Cond.selects RX7 yX7_wakeIfCalledFor yX7_wakeIfCalledFor, Cond.code yX7_wakeIfCalledFor cX7_wakeIfCalledFor 2 none, Cond.methodLink RX7 277 yX7_ticksToWakeup, Cond.instanceMethod yX7_ticksToWakeup, Cond.selects RX7 yX7_ticksToWakeup yX7_ticksToWakeup, Cond.code yX7_ticksToWakeup cX7_ticksToWakeup 2 (some .int), Cond.methodLink RX7 311 yX7_nextWakeup, Cond.methodLink RX7 280 yX3_isAnyDue, Cond.instanceMethod yX3_isAnyDue, Cond.selects RX3 yX3_isAnyDue yX3_isAnyDue, Cond.code yX3_isAnyDue cX3_isAnyDue 3 (some .boolean), Cond.methodLink RX7 286 yX6_latencyOf, Cond.methodLink RX7 246 yX7_serveWhatIsDue, Cond.instanceMethod yX7_serveWhatIsDue, Cond.selects RX7 yX7_serveWhatIsDue yX7_serveWhatIsDue, Cond.code yX7_serveWhatIsDue cX7_serveWhatIsDue 2 none, Cond.methodLink RX7 295 yX3_takeDue, Cond.instanceMethod yX3_takeDue, Cond.selects RX3 yX3_takeDue yX3_takeDue, Cond.code yX3_takeDue cX3_takeDue 5 (some .int), Cond.methodLink RX7 249 yX7_chooseState]
def wsL_law0_r22 : List Cond := [Cond.instanceMethod yX7_chooseState, Cond.selects RX7 yX7_chooseState yX7_chooseState, Cond.code yX7_chooseState cX7_chooseState 2 (some .int), Cond.methodLink RX7 233 yX7_depth, Cond.methodLink RX7 298 yX6_deepestThatWakes, Cond.instanceMethod yX6_deepestThatWakes, Cond.selects RX6 yX6_deepestThatWakes yX6_deepestThatWakes, Cond.code yX6_deepestThatWakes cX6_deepestThatWakes 4 (some .int), Cond.methodLink RX7 302 yX2_mean, Cond.instanceMethod yX2_mean, Cond.selects RX2 yX2_mean yX2_mean, Cond.code yX2_mean cX2_mean 3 (some .int), Cond.constant RX2 25 (1000000000), Cond.methodLink RX7 305 yX6_deepestWorthwhile, Cond.instanceMethod yX6_deepestWorthwhile, Cond.selects RX6 yX6_deepestWorthwhile yX6_deepestWorthwhile, Cond.code yX6_deepestWorthwhile cX6_deepestWorthwhile 5 (some .int), Cond.methodLink RX6 42 yX6_leastWorthwhile, Cond.methodLink RX7 252 yX7_fallAsleep, Cond.instanceMethod yX7_fallAsleep, Cond.selects RX7 yX7_fallAsleep yX7_fallAsleep, Cond.code yX7_fallAsleep cX7_fallAsleep 2 none, Cond.methodLink RX7 308 yX6_costOf, Cond.methodLink RX7 256 yX4_countTick]
def wsL_law0_r23 : List Cond := [Cond.instanceMethod yX4_countTick, Cond.selects RX4 yX4_countTick yX4_countTick, Cond.code yX4_countTick cX4_countTick 2 none, Cond.methodLink RX7 259 yX7_powerOfTick, Cond.instanceMethod yX7_powerOfTick, Cond.selects RX7 yX7_powerOfTick yX7_powerOfTick, Cond.code yX7_powerOfTick cX7_powerOfTick 2 (some .int), Cond.methodLink RX7 266 yJ9_floorMod_7cf53, Cond.static yJ9_floorMod_7cf53, Cond.initialized RJ9, Cond.code yJ9_floorMod_7cf53 cJ9_floorMod_7cf53 3 (some .int), Cond.methodLink RX7 269 yX4_takeUnpaid, Cond.instanceMethod yX4_takeUnpaid, Cond.selects RX4 yX4_takeUnpaid yX4_takeUnpaid, Cond.code yX4_takeUnpaid cX4_takeUnpaid 3 (some .long), Cond.methodLink RX7 273 yX0_takeTick, Cond.instanceMethod yX0_takeTick, Cond.selects RX0 yX0_takeTick yX0_takeTick, Cond.code yX0_takeTick cX0_takeTick 6 none, Cond.constantLong RX0 31 (50000), Cond.methodLink RX0 33 Lib.MathLoose.min_long.x, Cond.static Lib.MathLoose.min_long.x, Cond.code Lib.MathLoose.min_long.x Lib.MathLoose.min_long.code 4 (some .long), Cond.methodLink RX0 39 Lib.MathLoose.max_long.x]
def wsL_law0_r24 : List Cond := [Cond.static Lib.MathLoose.max_long.x, Cond.code Lib.MathLoose.max_long.x Lib.MathLoose.max_long.code 4 (some .long), Cond.methodLink RX0 42 yX0_balance, Cond.instanceMethod yX0_balance, Cond.selects RX0 yX0_balance yX0_balance, Cond.code yX0_balance cX0_balance 2 none, Cond.methodLink RX0 49 Lib.Math.min.name, Cond.methodLink RX0 45 yJ9_floorDiv_7cf53, Cond.static yJ9_floorDiv_7cf53, Cond.code yJ9_floorDiv_7cf53 cJ9_floorDiv_7cf53 3 (some .int), Cond.methodLink RL 142 yX8_play, Cond.instanceMethod yX8_play, Cond.selects RX8 yX8_play yX8_play, Cond.code yX8_play cX8_play 3 (some .int), Cond.methodLink RX8 200 yX8_playsOne, Cond.instanceMethod yX8_playsOne, Cond.selects RX8 yX8_playsOne yX8_playsOne, Cond.code yX8_playsOne cX8_playsOne 1 none, Cond.methodLink RX8 188 yX8_mayWake, Cond.instanceMethod yX8_mayWake, Cond.selects RX8 yX8_mayWake yX8_mayWake, Cond.code yX8_mayWake cX8_mayWake 1 none, Cond.fieldLink RX8 160 "SleepPlannerModel" "lateness" "I", Cond.methodLink RX8 156 yX8_isEvent]
def wsL_law0_r25 : List Cond := [Cond.instanceMethod yX8_isEvent, Cond.selects RX8 yX8_isEvent yX8_isEvent, Cond.code yX8_isEvent cX8_isEvent 3 (some .boolean), Cond.methodLink RX8 191 yX8_servesAll, Cond.instanceMethod yX8_servesAll, Cond.selects RX8 yX8_servesAll yX8_servesAll, Cond.code yX8_servesAll cX8_servesAll 3 none, Cond.methodLink RX8 166 yX8_serves, Cond.instanceMethod yX8_serves, Cond.selects RX8 yX8_serves yX8_serves, Cond.code yX8_serves cX8_serves 2 none, Cond.fieldLink RX8 163 "SleepPlannerModel" "served" "I", Cond.methodLink RX8 194 yX8_governs, Cond.instanceMethod yX8_governs, Cond.selects RX8 yX8_governs yX8_governs, Cond.code yX8_governs cX8_governs 2 none, Cond.fieldLink RX8 177 "SleepPlannerModel" "sleeps" "I", Cond.methodLink RX8 173 yX8_chooses, Cond.instanceMethod yX8_chooses, Cond.selects RX8 yX8_chooses yX8_chooses, Cond.code yX8_chooses cX8_chooses 6 (some .int), Cond.methodLink RX8 170 yX8_mean, Cond.instanceMethod yX8_mean, Cond.selects RX8 yX8_mean yX8_mean]
def wsL_law0_r26 : List Cond := [Cond.code yX8_mean cX8_mean 4 (some .int), Cond.methodLink RX8 197 yX8_battery, Cond.instanceMethod yX8_battery, Cond.selects RX8 yX8_battery yX8_battery, Cond.code yX8_battery cX8_battery 4 none, Cond.fieldLink RX8 180 "SleepPlannerModel" "shortTicks" "I", Cond.constantLong RX8 183 (50000), Cond.methodLink RX8 185 yX8_down, Cond.static yX8_down, Cond.code yX8_down cX8_down 2 (some .int), Cond.methodLink RL 143 yX7_now, Cond.instanceMethod yX7_now, Cond.selects RX7 yX7_now yX7_now, Cond.code yX7_now cX7_now 1 (some .int), Cond.methodLink RL 146 yX8_now, Cond.instanceMethod yX8_now, Cond.selects RX8 yX8_now yX8_now, Cond.code yX8_now cX8_now 1 (some .int), Cond.methodLink RL 147 yX7_state, Cond.instanceMethod yX7_state, Cond.selects RX7 yX7_state yX7_state, Cond.code yX7_state cX7_state 1 (some .int), Cond.methodLink RL 150 yX8_state, Cond.instanceMethod yX8_state]
def wsL_law0_r27 : List Cond := [Cond.selects RX8 yX8_state yX8_state, Cond.code yX8_state cX8_state 1 (some .int), Cond.methodLink RL 151 yX7_spent, Cond.instanceMethod yX7_spent, Cond.selects RX7 yX7_spent yX7_spent, Cond.code yX7_spent cX7_spent 1 (some .long), Cond.methodLink RL 155 yX8_spent, Cond.instanceMethod yX8_spent, Cond.selects RX8 yX8_spent yX8_spent, Cond.code yX8_spent cX8_spent 1 (some .long), Cond.methodLink RL 156 yL_ticksIn, Cond.static yL_ticksIn, Cond.codeWith yL_ticksIn cL_ticksIn 4 (some .int) [(0, 9, 12, 13)], Cond.methodLink RL 59 yX7_ticksIn, Cond.instanceMethod yX7_ticksIn, Cond.selects RX7 yX7_ticksIn yX7_ticksIn, Cond.code yX7_ticksIn cX7_ticksIn 2 (some .int), Cond.methodLink RX7 196 yX7_read, Cond.methodLink RL 158 yX8_ticksIn, Cond.instanceMethod yX8_ticksIn, Cond.selects RX8 yX8_ticksIn yX8_ticksIn, Cond.code yX8_ticksIn cX8_ticksIn 2 (some .int), Cond.methodLink RL 159 yX7_sleeps, Cond.instanceMethod yX7_sleeps]
def wsL_law0_r28 : List Cond := [Cond.selects RX7 yX7_sleeps yX7_sleeps, Cond.code yX7_sleeps cX7_sleeps 1 (some .int), Cond.methodLink RL 162 yX8_sleeps, Cond.instanceMethod yX8_sleeps, Cond.selects RX8 yX8_sleeps yX8_sleeps, Cond.code yX8_sleeps cX8_sleeps 1 (some .int), Cond.methodLink RL 163 yX7_lateness, Cond.instanceMethod yX7_lateness, Cond.selects RX7 yX7_lateness yX7_lateness, Cond.code yX7_lateness cX7_lateness 1 (some .int), Cond.methodLink RL 166 yX8_lateness, Cond.instanceMethod yX8_lateness, Cond.selects RX8 yX8_lateness yX8_lateness, Cond.code yX8_lateness cX8_lateness 1 (some .int), Cond.methodLink RL 167 yX7_served, Cond.instanceMethod yX7_served, Cond.selects RX7 yX7_served yX7_served, Cond.code yX7_served cX7_served 1 (some .int), Cond.methodLink RL 170 yX8_served, Cond.instanceMethod yX8_served, Cond.selects RX8 yX8_served yX8_served, Cond.code yX8_served cX8_served 1 (some .int), Cond.methodLink RL 171 yL_setHarvest, Cond.static yL_setHarvest]
def wsL_law0_r29 : List Cond := [Cond.codeWith yL_setHarvest cL_setHarvest 5 (some .int) [(0, 10, 13, 13)], Cond.methodLink RL 62 yX7_setHarvest, Cond.instanceMethod yX7_setHarvest, Cond.selects RX7 yX7_setHarvest yX7_setHarvest, Cond.code yX7_setHarvest cX7_setHarvest 3 (some .int), Cond.methodLink RL 173 yX8_setHarvest, Cond.instanceMethod yX8_setHarvest, Cond.selects RX8 yX8_setHarvest yX8_setHarvest, Cond.code yX8_setHarvest cX8_setHarvest 4 (some .int), Cond.methodLink RL 174 yX7_available, Cond.instanceMethod yX7_available, Cond.selects RX7 yX7_available yX7_available, Cond.code yX7_available cX7_available 1 (some .int), Cond.methodLink RL 177 yX8_available, Cond.instanceMethod yX8_available, Cond.selects RX8 yX8_available yX8_available, Cond.code yX8_available cX8_available 1 (some .int), Cond.methodLink RL 178 yX7_bound, Cond.instanceMethod yX7_bound, Cond.selects RX7 yX7_bound yX7_bound, Cond.code yX7_bound cX7_bound 1 (some .int), Cond.methodLink RL 181 yX8_bound, Cond.instanceMethod yX8_bound, Cond.selects RX8 yX8_bound yX8_bound]
def wsL_law0_r30 : List Cond := [Cond.code yX8_bound cX8_bound 1 (some .int), Cond.methodLink RL 182 yX7_shortTicks, Cond.instanceMethod yX7_shortTicks, Cond.selects RX7 yX7_shortTicks yX7_shortTicks, Cond.code yX7_shortTicks cX7_shortTicks 1 (some .int), Cond.methodLink RL 185 yX8_shortTicks, Cond.instanceMethod yX8_shortTicks, Cond.selects RX8 yX8_shortTicks yX8_shortTicks, Cond.code yX8_shortTicks cX8_shortTicks 1 (some .int), Cond.methodLink RL 186 yL_plannedWakeups, Cond.static yL_plannedWakeups, Cond.codeWith yL_plannedWakeups cL_plannedWakeups 4 (some .int) [(0, 9, 12, 13)], Cond.methodLink RL 65 yX7_plannedWakeups, Cond.instanceMethod yX7_plannedWakeups, Cond.selects RX7 yX7_plannedWakeups yX7_plannedWakeups, Cond.code yX7_plannedWakeups cX7_plannedWakeups 2 (some .int), Cond.methodLink RX7 225 yX5_countPlanned, Cond.instanceMethod yX5_countPlanned, Cond.selects RX5 yX5_countPlanned yX5_countPlanned, Cond.code yX5_countPlanned cX5_countPlanned 5 (some .int), Cond.methodLink RX5 18 yX3_leastLatest, Cond.methodLink RL 188 yX8_plannedWakeups, Cond.instanceMethod yX8_plannedWakeups, Cond.selects RX8 yX8_plannedWakeups yX8_plannedWakeups]
def wsL_law0_r31 : List Cond := [Cond.code yX8_plannedWakeups cX8_plannedWakeups 2 (some .int), Cond.methodLink RX8 206 yX8_isReach, Cond.instanceMethod yX8_isReach, Cond.selects RX8 yX8_isReach yX8_isReach, Cond.code yX8_isReach cX8_isReach 2 (some .boolean), Cond.methodLink RX8 209 yX8_wakeups, Cond.instanceMethod yX8_wakeups, Cond.selects RX8 yX8_wakeups yX8_wakeups, Cond.code yX8_wakeups cX8_wakeups 4 (some .int), Cond.methodLink RX8 203 yX8_nextPlanned, Cond.instanceMethod yX8_nextPlanned, Cond.selects RX8 yX8_nextPlanned yX8_nextPlanned, Cond.code yX8_nextPlanned cX8_nextPlanned 5 (some .int), Cond.methodLink RL 189 yL_fewestWakeups, Cond.static yL_fewestWakeups, Cond.codeWith yL_fewestWakeups cL_fewestWakeups 4 (some .int) [(0, 9, 12, 13)], Cond.methodLink RL 68 yX7_fewestWakeups, Cond.instanceMethod yX7_fewestWakeups, Cond.selects RX7 yX7_fewestWakeups yX7_fewestWakeups, Cond.code yX7_fewestWakeups cX7_fewestWakeups 2 (some .int), Cond.methodLink RX7 229 yX5_countFewest, Cond.instanceMethod yX5_countFewest, Cond.selects RX5 yX5_countFewest yX5_countFewest, Cond.code yX5_countFewest cX5_countFewest 5 (some .int)]
def wsL_law0_r32 : List Cond := [Cond.methodLink RX5 37 yX5_leastSum, Cond.instanceMethod yX5_leastSum, Cond.selects RX5 yX5_leastSum yX5_leastSum, Cond.code yX5_leastSum cX5_leastSum 7 (some .long), Cond.methodLink RX5 44 yX5_earliestBefore, Cond.instanceMethod yX5_earliestBefore, Cond.selects RX5 yX5_earliestBefore yX5_earliestBefore, Cond.code yX5_earliestBefore cX5_earliestBefore 6 (some .int), Cond.methodLink RX5 56 Lib.Math.max.name, Cond.static Lib.Math.max.name, Cond.code Lib.Math.max.name Lib.Math.max.code 2 (some .int), Cond.methodLink RX5 52 yX3_greatestDue, Cond.instanceMethod yX3_greatestDue, Cond.selects RX3 yX3_greatestDue yX3_greatestDue, Cond.code yX3_greatestDue cX3_greatestDue 4 (some .int), Cond.methodLink RX3 29 Lib.Math.max.name, Cond.methodLink RX5 48 yX5_leastSumTo, Cond.instanceMethod yX5_leastSumTo, Cond.selects RX5 yX5_leastSumTo yX5_leastSumTo, Cond.code yX5_leastSumTo cX5_leastSumTo 8 (some .long), Cond.constantLong RX5 61 (1000000000000), Cond.methodLink RL 191 yX8_fewestWakeups, Cond.instanceMethod yX8_fewestWakeups, Cond.selects RX8 yX8_fewestWakeups yX8_fewestWakeups]
def wsL_law0_r33 : List Cond := [Cond.code yX8_fewestWakeups cX8_fewestWakeups 2 (some .int), Cond.methodLink RL 192 yL_plannedCost, Cond.static yL_plannedCost, Cond.codeWith yL_plannedCost cL_plannedCost 4 (some .int) [(0, 8, 11, 13)], Cond.methodLink RL 71 yX7_plannedCost, Cond.instanceMethod yX7_plannedCost, Cond.selects RX7 yX7_plannedCost yX7_plannedCost, Cond.code yX7_plannedCost cX7_plannedCost 2 (some .long), Cond.methodLink RX7 236 yX5_sumPlanned, Cond.instanceMethod yX5_sumPlanned, Cond.selects RX5 yX5_sumPlanned yX5_sumPlanned, Cond.code yX5_sumPlanned cX5_sumPlanned 12 (some .long), Cond.methodLink RX5 28 yX5_countPlanned, Cond.methodLink RX5 32 yX6_plannedIdleCost, Cond.instanceMethod yX6_plannedIdleCost, Cond.selects RX6 yX6_plannedIdleCost yX6_plannedIdleCost, Cond.code yX6_plannedIdleCost cX6_plannedIdleCost 3 (some .int), Cond.methodLink RX6 45 yX6_deepestWorthwhile, Cond.methodLink RX6 49 yX6_idleCost, Cond.instanceMethod yX6_idleCost, Cond.selects RX6 yX6_idleCost yX6_idleCost, Cond.code yX6_idleCost cX6_idleCost 3 (some .int), Cond.methodLink RX6 39 yX6_wakingCost, Cond.methodLink RL 194 yX8_plannedCost]
def wsL_law0_r34 : List Cond := [Cond.instanceMethod yX8_plannedCost, Cond.selects RX8 yX8_plannedCost yX8_plannedCost, Cond.code yX8_plannedCost cX8_plannedCost 7 (some .long), Cond.methodLink RL 195 yL_leastCost, Cond.static yL_leastCost, Cond.codeWith yL_leastCost cL_leastCost 4 (some .int) [(0, 8, 11, 13)], Cond.methodLink RL 75 yX7_leastCost, Cond.instanceMethod yX7_leastCost, Cond.selects RX7 yX7_leastCost yX7_leastCost, Cond.code yX7_leastCost cX7_leastCost 2 (some .long), Cond.methodLink RX7 240 yX5_sumLeast, Cond.instanceMethod yX5_sumLeast, Cond.selects RX5 yX5_sumLeast yX5_sumLeast, Cond.code yX5_sumLeast cX5_sumLeast 7 (some .long), Cond.methodLink RX5 41 yX6_leastIdleCost, Cond.instanceMethod yX6_leastIdleCost, Cond.selects RX6 yX6_leastIdleCost yX6_leastIdleCost, Cond.code yX6_leastIdleCost cX6_leastIdleCost 5 (some .int), Cond.methodLink RX6 52 Lib.Math.min.name, Cond.methodLink RL 197 yX8_leastCost, Cond.instanceMethod yX8_leastCost, Cond.selects RX8 yX8_leastCost yX8_leastCost, Cond.code yX8_leastCost cX8_leastCost 9 (some .long), Cond.constantLong RX8 212 (-1)]
def wsL_law0 : List Cond := (wsL_law0_r1 ++ (wsL_law0_r2 ++ (wsL_law0_r3 ++ (wsL_law0_r4 ++ (wsL_law0_r5 ++ (wsL_law0_r6 ++ (wsL_law0_r7 ++ (wsL_law0_r8 ++ (wsL_law0_r9 ++ (wsL_law0_r10 ++ (wsL_law0_r11 ++ (wsL_law0_r12 ++ (wsL_law0_r13 ++ (wsL_law0_r14 ++ (wsL_law0_r15 ++ (wsL_law0_r16 ++ (wsL_law0_r17 ++ (wsL_law0_r18 ++ (wsL_law0_r19 ++ (wsL_law0_r20 ++ (wsL_law0_r21 ++ (wsL_law0_r22 ++ (wsL_law0_r23 ++ (wsL_law0_r24 ++ (wsL_law0_r25 ++ (wsL_law0_r26 ++ (wsL_law0_r27 ++ (wsL_law0_r28 ++ (wsL_law0_r29 ++ (wsL_law0_r30 ++ (wsL_law0_r31 ++ (wsL_law0_r32 ++ (wsL_law0_r33 ++ wsL_law0_r34))))))))))))))))))))))))))))))))) ++ wsX70 ++ wsX80 ++ wsX60 ++ wsX10 ++ wsX30 ++ wsX20 ++ wsX40 ++ wsX00 ++ wsX50 ++ ([] : List Cond)
def wsL_law : List Cond := wsL_law0 ++ (vx_atS RX7 86 "java/lang/IllegalArgumentException" ["java/lang/RuntimeException", "java/lang/Exception"]).filter goodWord ++ (vx_atS RX7 116 "java/lang/IndexOutOfBoundsException" ["java/lang/RuntimeException", "java/lang/Exception"]).filter goodWord ++ (vx_atS RX7 127 "java/lang/IllegalStateException" ["java/lang/RuntimeException", "java/lang/Exception"]).filter goodWord
abbrev vwCl : List vw_C := [(RX0, TX0, 4), (RX1, TX1, 6), (RX2, TX2, 2), (RX3, TX3, 4), (RX4, TX4, 6), (RX5, TX5, 2), (RX6, TX6, 3), (RX7, TX7, 13), (RX8, TX8, 36)]
end
section
theorem nmX0 : ∀ a, a < 4 → ∀ b, b < 4 → a ≠ b → (TX0 a).2.1 ≠ (TX0 b).2.1 := by decide +kernel
theorem nmX1 : ∀ a, a < 6 → ∀ b, b < 6 → a ≠ b → (TX1 a).2.1 ≠ (TX1 b).2.1 := by decide +kernel
theorem nmX2 : ∀ a, a < 2 → ∀ b, b < 2 → a ≠ b → (TX2 a).2.1 ≠ (TX2 b).2.1 := by decide +kernel
theorem nmX3 : ∀ a, a < 4 → ∀ b, b < 4 → a ≠ b → (TX3 a).2.1 ≠ (TX3 b).2.1 := by decide +kernel
theorem nmX4 : ∀ a, a < 6 → ∀ b, b < 6 → a ≠ b → (TX4 a).2.1 ≠ (TX4 b).2.1 := by decide +kernel
theorem nmX5 : ∀ a, a < 2 → ∀ b, b < 2 → a ≠ b → (TX5 a).2.1 ≠ (TX5 b).2.1 := by decide +kernel
theorem nmX6 : ∀ a, a < 3 → ∀ b, b < 3 → a ≠ b → (TX6 a).2.1 ≠ (TX6 b).2.1 := by decide +kernel
theorem nmX7 : ∀ a, a < 13 → ∀ b, b < 13 → a ≠ b → (TX7 a).2.1 ≠ (TX7 b).2.1 := by decide +kernel
theorem nmX8 : ∀ a, a < 36 → ∀ b, b < 36 → a ≠ b → (TX8 a).2.1 ≠ (TX8 b).2.1 := by decide +kernel
theorem tyX0_ok : ∀ k, k < 4 → parseFieldDescriptor (TX0 k).2.2.1 = some (tyX0 k) := by decide +kernel
theorem tyX1_ok : ∀ k, k < 6 → parseFieldDescriptor (TX1 k).2.2.1 = some (tyX1 k) := by decide +kernel
theorem tyX2_ok : ∀ k, k < 2 → parseFieldDescriptor (TX2 k).2.2.1 = some (tyX2 k) := by decide +kernel
theorem tyX3_ok : ∀ k, k < 4 → parseFieldDescriptor (TX3 k).2.2.1 = some (tyX3 k) := by decide +kernel
theorem tyX4_ok : ∀ k, k < 6 → parseFieldDescriptor (TX4 k).2.2.1 = some (tyX4 k) := by decide +kernel
theorem tyX5_ok : ∀ k, k < 2 → parseFieldDescriptor (TX5 k).2.2.1 = some (tyX5 k) := by decide +kernel
theorem tyX6_ok : ∀ k, k < 3 → parseFieldDescriptor (TX6 k).2.2.1 = some (tyX6 k) := by decide +kernel
theorem tyX7_ok : ∀ k, k < 13 → parseFieldDescriptor (TX7 k).2.2.1 = some (tyX7 k) := by decide +kernel
theorem tyX8_ok : ∀ k, k < 36 → parseFieldDescriptor (TX8 k).2.2.1 = some (tyX8 k) := by decide +kernel
theorem nmJ9 : ∀ a, a < 0 → ∀ b, b < 0 → a ≠ b → (TJ9 a).2.1 ≠ (TJ9 b).2.1 := by decide +kernel
theorem nmJ0 : ∀ a, a < 0 → ∀ b, b < 0 → a ≠ b → (TJ0 a).2.1 ≠ (TJ0 b).2.1 := by decide +kernel
theorem tyJ9_ok : ∀ k, k < 0 → parseFieldDescriptor (TJ9 k).2.2.1 = some (tyJ9 k) := by decide +kernel
theorem tyJ0_ok : ∀ k, k < 0 → parseFieldDescriptor (TJ0 k).2.2.1 = some (tyJ0 k) := by decide +kernel
end
section
set_option maxRecDepth 20000 in
theorem ggX0_takeTick_X7_read : GoodIn wsX0_takeTick wsX7_read := goodIn_r _ [14] (by decide +kernel) (by decide +kernel)
set_option maxRecDepth 20000 in
theorem gX0_takeTick_X7_read_n27 : GoodIn wsX0_takeTick (wsX7_read) := ggX0_takeTick_X7_read
set_option maxRecDepth 20000 in
theorem ggX0_takeTick_X0_balance : GoodIn wsX0_takeTick wsX0_balance := goodIn_r _ [19, 20, 1, 21, 22, 23, 7, 24, 25, 26, 27, 28, 29, 30, 31, 32, 33] (by decide +kernel) (by decide +kernel)
set_option maxRecDepth 20000 in
theorem gX0_takeTick_X0_balance : GoodIn wsX0_takeTick (wsV RX0 42 RX0 yX0_balance wsX0_balance) := goodIn_app (goodIn_of _ (by decide +kernel)) ggX0_takeTick_X0_balance
set_option maxRecDepth 20000 in
theorem ggX0_balance_J9_floorDiv_7cf53 : GoodIn wsX0_balance wsJ9_floorDiv_7cf53 := goodIn_r _ [12] (by decide +kernel) (by decide +kernel)
set_option maxRecDepth 20000 in
theorem gX0_balance_J9_floorDiv_7cf53 : GoodIn wsX0_balance (va_wsS RX0 45 yJ9_floorDiv_7cf53 wsJ9_floorDiv_7cf53) := goodIn_app (goodIn_of _ (by decide +kernel)) ggX0_balance_J9_floorDiv_7cf53
set_option maxRecDepth 20000 in
theorem ggX1_add_X1_isFull : GoodIn wsX1_add wsX1_isFull := goodIn_r _ [10, 2, 14, 15, 16, 17, 18, 19] (by decide +kernel) (by decide +kernel)
set_option maxRecDepth 20000 in
theorem gX1_add_X1_isFull : GoodIn wsX1_add (wsV RX1 32 RX1 yX1_isFull wsX1_isFull) := goodIn_app (goodIn_of _ (by decide +kernel)) ggX1_add_X1_isFull
set_option maxRecDepth 20000 in
theorem ggX1_add_X7_read : GoodIn wsX1_add wsX7_read := goodIn_r _ [13] (by decide +kernel) (by decide +kernel)
set_option maxRecDepth 20000 in
theorem gX1_add_X7_read_n36 : GoodIn wsX1_add (wsX7_read) := ggX1_add_X7_read
set_option maxRecDepth 20000 in
theorem ggX1_usesOf_X7_read : GoodIn wsX1_usesOf wsX7_read := goodIn_r _ [4] (by decide +kernel) (by decide +kernel)
set_option maxRecDepth 20000 in
theorem gX1_usesOf_X7_read_n36 : GoodIn wsX1_usesOf (wsX7_read) := ggX1_usesOf_X7_read
set_option maxRecDepth 20000 in
theorem ggX1_changeUses_X1_usesOf : GoodIn wsX1_changeUses wsX1_usesOf := goodIn_r _ [6, 1, 7, 8, 9, 12, 13, 14, 15, 16, 17] (by decide +kernel) (by decide +kernel)
set_option maxRecDepth 20000 in
theorem gX1_changeUses_X1_usesOf : GoodIn wsX1_changeUses (wsV RX1 40 RX1 yX1_usesOf wsX1_usesOf) := goodIn_app (goodIn_of _ (by decide +kernel)) ggX1_changeUses_X1_usesOf
set_option maxRecDepth 20000 in
theorem ggX1_changeUses_X7_exchange : GoodIn wsX1_changeUses wsX7_exchange := goodIn_r _ [11] (by decide +kernel) (by decide +kernel)
set_option maxRecDepth 20000 in
theorem gX1_changeUses_X7_exchange_n44 : GoodIn wsX1_changeUses (wsX7_exchange) := ggX1_changeUses_X7_exchange
set_option maxRecDepth 20000 in
theorem ggX1_frequencyOf_X7_read : GoodIn wsX1_frequencyOf wsX7_read := goodIn_r _ [4] (by decide +kernel) (by decide +kernel)
set_option maxRecDepth 20000 in
theorem gX1_frequencyOf_X7_read_n36 : GoodIn wsX1_frequencyOf (wsX7_read) := ggX1_frequencyOf_X7_read
set_option maxRecDepth 20000 in
theorem ggX1_isRunning_X1_markRunning : GoodIn wsX1_isRunning wsX1_markRunning := goodIn_r _ [6, 7, 1, 8, 9, 10, 11, 12, 5, 13, 14, 15, 16, 17, 18, 19] (by decide +kernel) (by decide +kernel)
set_option maxRecDepth 20000 in
theorem gX1_isRunning_X1_markRunning : GoodIn wsX1_isRunning (wsV RX1 48 RX1 yX1_markRunning wsX1_markRunning) := goodIn_app (goodIn_of _ (by decide +kernel)) ggX1_isRunning_X1_markRunning
set_option maxRecDepth 20000 in
theorem ggX1_isRunning_X1_has : GoodIn wsX1_isRunning wsX1_has := goodIn_r _ [13, 7, 14, 15, 16, 17, 18, 19] (by decide +kernel) (by decide +kernel)
set_option maxRecDepth 20000 in
theorem gX1_isRunning_X1_has : GoodIn wsX1_isRunning (wsV RX1 51 RX1 yX1_has wsX1_has) := goodIn_app (goodIn_of _ (by decide +kernel)) ggX1_isRunning_X1_has
set_option maxRecDepth 20000 in
theorem ggX1_leastDeepest_X1_markRunning : GoodIn wsX1_leastDeepest wsX1_markRunning := goodIn_r _ [12, 1, 2, 13, 14, 15, 16, 17, 11, 18, 19, 20, 21, 22, 23, 24] (by decide +kernel) (by decide +kernel)
set_option maxRecDepth 20000 in
theorem gX1_leastDeepest_X1_markRunning : GoodIn wsX1_leastDeepest (wsV RX1 48 RX1 yX1_markRunning wsX1_markRunning) := goodIn_app (goodIn_of _ (by decide +kernel)) ggX1_leastDeepest_X1_markRunning
set_option maxRecDepth 20000 in
theorem ggX1_markRunning_X1_has : GoodIn wsX1_markRunning wsX1_has := goodIn_r _ [9, 1, 10, 11, 12, 13, 14, 15] (by decide +kernel) (by decide +kernel)
set_option maxRecDepth 20000 in
theorem gX1_markRunning_X1_has : GoodIn wsX1_markRunning (wsV RX1 51 RX1 yX1_has wsX1_has) := goodIn_app (goodIn_of _ (by decide +kernel)) ggX1_markRunning_X1_has
set_option maxRecDepth 20000 in
theorem ggX3_add_X3_isFull : GoodIn wsX3_add wsX3_isFull := goodIn_r _ [9, 1, 10, 11, 12, 13] (by decide +kernel) (by decide +kernel)
set_option maxRecDepth 20000 in
theorem gX3_add_X3_isFull : GoodIn wsX3_add (wsV RX3 25 RX3 yX3_isFull wsX3_isFull) := goodIn_app (goodIn_of _ (by decide +kernel)) ggX3_add_X3_isFull
set_option maxRecDepth 20000 in
theorem ggX4_countTick_X7_read : GoodIn wsX4_countTick wsX7_read := goodIn_r _ [4] (by decide +kernel) (by decide +kernel)
set_option maxRecDepth 20000 in
theorem gX4_countTick_X7_read_n32 : GoodIn wsX4_countTick (wsX7_read) := ggX4_countTick_X7_read
set_option maxRecDepth 20000 in
theorem ggX4_countTick_X7_exchange : GoodIn wsX4_countTick wsX7_exchange := goodIn_r _ [6] (by decide +kernel) (by decide +kernel)
set_option maxRecDepth 20000 in
theorem gX4_countTick_X7_exchange_n36 : GoodIn wsX4_countTick (wsX7_exchange) := ggX4_countTick_X7_exchange
set_option maxRecDepth 20000 in
theorem ggX5_countPlanned_X3_leastLatest : GoodIn wsX5_countPlanned wsX3_leastLatest := goodIn_r _ [5, 6, 7, 8, 9, 10, 11, 12] (by decide +kernel) (by decide +kernel)
set_option maxRecDepth 20000 in
theorem gX5_countPlanned_X3_leastLatest : GoodIn wsX5_countPlanned (wsV RX5 18 RX3 yX3_leastLatest wsX3_leastLatest) := goodIn_app (goodIn_of _ (by decide +kernel)) ggX5_countPlanned_X3_leastLatest
set_option maxRecDepth 20000 in
theorem ggX5_sumPlanned_X5_countPlanned : GoodIn wsX5_sumPlanned wsX5_countPlanned := goodIn_r _ [5, 6, 7, 8, 9, 10, 11, 12, 13, 53, 54, 55, 56] (by decide +kernel) (by decide +kernel)
set_option maxRecDepth 20000 in
theorem gX5_sumPlanned_X5_countPlanned : GoodIn wsX5_sumPlanned (wsV RX5 28 RX5 yX5_countPlanned wsX5_countPlanned) := goodIn_app (goodIn_of _ (by decide +kernel)) ggX5_sumPlanned_X5_countPlanned
set_option maxRecDepth 20000 in
theorem ggX5_sumPlanned_X3_leastLatest : GoodIn wsX5_sumPlanned wsX3_leastLatest := goodIn_r _ [10, 11, 12, 13, 53, 54, 55, 56] (by decide +kernel) (by decide +kernel)
set_option maxRecDepth 20000 in
theorem gX5_sumPlanned_X3_leastLatest : GoodIn wsX5_sumPlanned (wsV RX5 18 RX3 yX3_leastLatest wsX3_leastLatest) := goodIn_app (goodIn_of _ (by decide +kernel)) ggX5_sumPlanned_X3_leastLatest
set_option maxRecDepth 20000 in
theorem ggX5_sumPlanned_X6_plannedIdleCost : GoodIn wsX5_sumPlanned wsX6_plannedIdleCost := goodIn_r _ [18, 19, 20, 21, 17, 22, 23, 24, 25, 26, 27, 28, 29, 30, 31, 32, 33, 34, 35, 36, 37, 38, 39, 40, 41, 42, 43, 44, 45, 46, 47, 48, 49, 50, 51, 52, 57, 58, 59] (by decide +kernel) (by decide +kernel)
set_option maxRecDepth 20000 in
theorem gX5_sumPlanned_X6_plannedIdleCost : GoodIn wsX5_sumPlanned (wsV RX5 32 RX6 yX6_plannedIdleCost wsX6_plannedIdleCost) := goodIn_app (goodIn_of _ (by decide +kernel)) ggX5_sumPlanned_X6_plannedIdleCost
set_option maxRecDepth 20000 in
theorem ggX5_countFewest_X5_leastSum : GoodIn wsX5_countFewest wsX5_leastSum := goodIn_r _ [6, 7, 8, 9, 10, 5, 11, 12, 13, 14, 15, 16, 17, 18, 19, 20, 21, 22, 23, 24, 25, 26, 27, 28, 29, 1, 30, 31, 32, 33, 34, 35] (by decide +kernel) (by decide +kernel)
set_option maxRecDepth 20000 in
theorem gX5_countFewest_X5_leastSum : GoodIn wsX5_countFewest (wsV RX5 37 RX5 yX5_leastSum wsX5_leastSum) := goodIn_app (goodIn_of _ (by decide +kernel)) ggX5_countFewest_X5_leastSum
set_option maxRecDepth 20000 in
theorem ggX5_sumLeast_X6_leastIdleCost : GoodIn wsX5_sumLeast wsX6_leastIdleCost := goodIn_r _ [6, 7, 8, 9, 10, 11, 12, 13, 5, 14, 15, 16, 17, 18, 19, 20, 21, 22, 23, 24, 25, 26, 27, 28, 29, 30, 31, 32, 33, 34, 35, 36, 66, 67, 68] (by decide +kernel) (by decide +kernel)
set_option maxRecDepth 20000 in
theorem gX5_sumLeast_X6_leastIdleCost : GoodIn wsX5_sumLeast (wsV RX5 41 RX6 yX6_leastIdleCost wsX6_leastIdleCost) := goodIn_app (goodIn_of _ (by decide +kernel)) ggX5_sumLeast_X6_leastIdleCost
set_option maxRecDepth 20000 in
theorem ggX5_sumLeast_X5_leastSum : GoodIn wsX5_sumLeast wsX5_leastSum := goodIn_r _ [41, 42, 43, 44, 45, 40, 46, 47, 48, 9, 49, 50, 51, 52, 53, 54, 55, 56, 57, 58, 59, 60, 61, 62, 63, 1, 64, 65, 69, 70, 71, 72] (by decide +kernel) (by decide +kernel)
set_option maxRecDepth 20000 in
theorem gX5_sumLeast_X5_leastSum : GoodIn wsX5_sumLeast (wsV RX5 37 RX5 yX5_leastSum wsX5_leastSum) := goodIn_app (goodIn_of _ (by decide +kernel)) ggX5_sumLeast_X5_leastSum
set_option maxRecDepth 20000 in
theorem ggX5_leastSum_X5_earliestBefore : GoodIn wsX5_leastSum wsX5_earliestBefore := goodIn_r _ [6, 7, 8, 9, 10, 11, 12, 13, 14, 15, 16, 17, 18, 19, 28, 29, 30, 31] (by decide +kernel) (by decide +kernel)
set_option maxRecDepth 20000 in
theorem gX5_leastSum_X5_earliestBefore : GoodIn wsX5_leastSum (wsV RX5 44 RX5 yX5_earliestBefore wsX5_earliestBefore) := goodIn_app (goodIn_of _ (by decide +kernel)) ggX5_leastSum_X5_earliestBefore
set_option maxRecDepth 20000 in
theorem ggX5_leastSum_X5_leastSumTo : GoodIn wsX5_leastSum wsX5_leastSumTo := goodIn_r _ [23, 24, 7, 8, 9, 10, 1, 25, 26, 27] (by decide +kernel) (by decide +kernel)
set_option maxRecDepth 20000 in
theorem gX5_leastSum_X5_leastSumTo : GoodIn wsX5_leastSum (wsV RX5 48 RX5 yX5_leastSumTo wsX5_leastSumTo) := goodIn_app (goodIn_of _ (by decide +kernel)) ggX5_leastSum_X5_leastSumTo
set_option maxRecDepth 20000 in
theorem ggX5_earliestBefore_X3_greatestDue : GoodIn wsX5_earliestBefore wsX3_greatestDue := goodIn_r _ [9, 10, 11, 12, 13, 2, 3, 4, 14, 15, 16, 17] (by decide +kernel) (by decide +kernel)
set_option maxRecDepth 20000 in
theorem gX5_earliestBefore_X3_greatestDue : GoodIn wsX5_earliestBefore (wsV RX5 52 RX3 yX3_greatestDue wsX3_greatestDue) := goodIn_app (goodIn_of _ (by decide +kernel)) ggX5_earliestBefore_X3_greatestDue
set_option maxRecDepth 20000 in
theorem ggX6_change_X7_exchange : GoodIn wsX6_change wsX7_exchange := goodIn_r _ [6] (by decide +kernel) (by decide +kernel)
set_option maxRecDepth 20000 in
theorem gX6_change_X7_exchange_n21 : GoodIn wsX6_change (wsX7_exchange) := ggX6_change_X7_exchange
set_option maxRecDepth 20000 in
theorem ggX6_powerOf_X7_read : GoodIn wsX6_powerOf wsX7_read := goodIn_r _ [4] (by decide +kernel) (by decide +kernel)
set_option maxRecDepth 20000 in
theorem gX6_powerOf_X7_read_n25 : GoodIn wsX6_powerOf (wsX7_read) := ggX6_powerOf_X7_read
set_option maxRecDepth 20000 in
theorem ggX6_costOf_X7_read : GoodIn wsX6_costOf wsX7_read := goodIn_r _ [4] (by decide +kernel) (by decide +kernel)
set_option maxRecDepth 20000 in
theorem gX6_costOf_X7_read_n25 : GoodIn wsX6_costOf (wsX7_read) := ggX6_costOf_X7_read
set_option maxRecDepth 20000 in
theorem ggX6_latencyOf_X7_read : GoodIn wsX6_latencyOf wsX7_read := goodIn_r _ [4] (by decide +kernel) (by decide +kernel)
set_option maxRecDepth 20000 in
theorem gX6_latencyOf_X7_read_n25 : GoodIn wsX6_latencyOf (wsX7_read) := ggX6_latencyOf_X7_read
set_option maxRecDepth 20000 in
theorem ggX6_wakingCost_X6_powerOf : GoodIn wsX6_wakingCost wsX6_powerOf := goodIn_r _ [5, 6, 7, 8, 9, 15, 16, 17] (by decide +kernel) (by decide +kernel)
set_option maxRecDepth 20000 in
theorem gX6_wakingCost_X6_powerOf : GoodIn wsX6_wakingCost (wsV RX6 29 RX6 yX6_powerOf wsX6_powerOf) := goodIn_app (goodIn_of _ (by decide +kernel)) ggX6_wakingCost_X6_powerOf
set_option maxRecDepth 20000 in
theorem ggX6_wakingCost_X6_latencyOf : GoodIn wsX6_wakingCost wsX6_latencyOf := goodIn_r _ [13, 14, 7, 8, 9, 15, 16, 17] (by decide +kernel) (by decide +kernel)
set_option maxRecDepth 20000 in
theorem gX6_wakingCost_X6_latencyOf : GoodIn wsX6_wakingCost (wsV RX6 33 RX6 yX6_latencyOf wsX6_latencyOf) := goodIn_app (goodIn_of _ (by decide +kernel)) ggX6_wakingCost_X6_latencyOf
set_option maxRecDepth 20000 in
theorem ggX6_idleCost_X6_costOf : GoodIn wsX6_idleCost wsX6_costOf := goodIn_r _ [5, 6, 7, 8, 9, 24, 25, 26] (by decide +kernel) (by decide +kernel)
set_option maxRecDepth 20000 in
theorem gX6_idleCost_X6_costOf : GoodIn wsX6_idleCost (wsV RX6 36 RX6 yX6_costOf wsX6_costOf) := goodIn_app (goodIn_of _ (by decide +kernel)) ggX6_idleCost_X6_costOf
set_option maxRecDepth 20000 in
theorem ggX6_idleCost_X6_powerOf : GoodIn wsX6_idleCost wsX6_powerOf := goodIn_r _ [13, 14, 7, 8, 9, 24, 25, 26] (by decide +kernel) (by decide +kernel)
set_option maxRecDepth 20000 in
theorem gX6_idleCost_X6_powerOf : GoodIn wsX6_idleCost (wsV RX6 29 RX6 yX6_powerOf wsX6_powerOf) := goodIn_app (goodIn_of _ (by decide +kernel)) ggX6_idleCost_X6_powerOf
set_option maxRecDepth 20000 in
theorem ggX6_idleCost_X6_latencyOf : GoodIn wsX6_idleCost wsX6_latencyOf := goodIn_r _ [18, 19, 7, 8, 9, 24, 25, 26] (by decide +kernel) (by decide +kernel)
set_option maxRecDepth 20000 in
theorem gX6_idleCost_X6_latencyOf : GoodIn wsX6_idleCost (wsV RX6 33 RX6 yX6_latencyOf wsX6_latencyOf) := goodIn_app (goodIn_of _ (by decide +kernel)) ggX6_idleCost_X6_latencyOf
set_option maxRecDepth 20000 in
theorem ggX6_idleCost_X6_wakingCost : GoodIn wsX6_idleCost wsX6_wakingCost := goodIn_r _ [23, 10, 11, 12, 4, 13, 14, 7, 8, 9, 15, 16, 17, 18, 19, 24, 25, 26] (by decide +kernel) (by decide +kernel)
set_option maxRecDepth 20000 in
theorem gX6_idleCost_X6_wakingCost : GoodIn wsX6_idleCost (wsV RX6 39 RX6 yX6_wakingCost wsX6_wakingCost) := goodIn_app (goodIn_of _ (by decide +kernel)) ggX6_idleCost_X6_wakingCost
set_option maxRecDepth 20000 in
theorem ggX6_leastWorthwhile_X6_costOf : GoodIn wsX6_leastWorthwhile wsX6_costOf := goodIn_r _ [5, 6, 7, 8, 9, 20, 21, 22] (by decide +kernel) (by decide +kernel)
set_option maxRecDepth 20000 in
theorem gX6_leastWorthwhile_X6_costOf : GoodIn wsX6_leastWorthwhile (wsV RX6 36 RX6 yX6_costOf wsX6_costOf) := goodIn_app (goodIn_of _ (by decide +kernel)) ggX6_leastWorthwhile_X6_costOf
set_option maxRecDepth 20000 in
theorem ggX6_leastWorthwhile_X6_latencyOf : GoodIn wsX6_leastWorthwhile wsX6_latencyOf := goodIn_r _ [13, 14, 7, 8, 9, 20, 21, 22] (by decide +kernel) (by decide +kernel)
set_option maxRecDepth 20000 in
theorem gX6_leastWorthwhile_X6_latencyOf : GoodIn wsX6_leastWorthwhile (wsV RX6 33 RX6 yX6_latencyOf wsX6_latencyOf) := goodIn_app (goodIn_of _ (by decide +kernel)) ggX6_leastWorthwhile_X6_latencyOf
set_option maxRecDepth 20000 in
theorem ggX6_leastWorthwhile_X6_powerOf : GoodIn wsX6_leastWorthwhile wsX6_powerOf := goodIn_r _ [18, 19, 7, 8, 9, 20, 21, 22] (by decide +kernel) (by decide +kernel)
set_option maxRecDepth 20000 in
theorem gX6_leastWorthwhile_X6_powerOf : GoodIn wsX6_leastWorthwhile (wsV RX6 29 RX6 yX6_powerOf wsX6_powerOf) := goodIn_app (goodIn_of _ (by decide +kernel)) ggX6_leastWorthwhile_X6_powerOf
set_option maxRecDepth 20000 in
theorem ggX6_deepestThatWakes_X6_latencyOf : GoodIn wsX6_deepestThatWakes wsX6_latencyOf := goodIn_r _ [5, 6, 7, 8, 9, 10, 11, 12] (by decide +kernel) (by decide +kernel)
set_option maxRecDepth 20000 in
theorem gX6_deepestThatWakes_X6_latencyOf : GoodIn wsX6_deepestThatWakes (wsV RX6 33 RX6 yX6_latencyOf wsX6_latencyOf) := goodIn_app (goodIn_of _ (by decide +kernel)) ggX6_deepestThatWakes_X6_latencyOf
set_option maxRecDepth 20000 in
theorem ggX6_deepestWorthwhile_X6_leastWorthwhile : GoodIn wsX6_deepestWorthwhile wsX6_leastWorthwhile := goodIn_r _ [5, 6, 7, 8, 4, 9, 10, 11, 12, 13, 14, 15, 16, 17, 18, 19, 20, 21, 22, 23, 24, 25, 26] (by decide +kernel) (by decide +kernel)
set_option maxRecDepth 20000 in
theorem gX6_deepestWorthwhile_X6_leastWorthwhile : GoodIn wsX6_deepestWorthwhile (wsV RX6 42 RX6 yX6_leastWorthwhile wsX6_leastWorthwhile) := goodIn_app (goodIn_of _ (by decide +kernel)) ggX6_deepestWorthwhile_X6_leastWorthwhile
set_option maxRecDepth 20000 in
theorem ggX6_plannedIdleCost_X6_deepestWorthwhile : GoodIn wsX6_plannedIdleCost wsX6_deepestWorthwhile := goodIn_r _ [5, 6, 7, 8, 4, 9, 10, 11, 12, 13, 14, 15, 16, 17, 18, 19, 20, 21, 22, 23, 24, 25, 26, 27, 36, 37, 38] (by decide +kernel) (by decide +kernel)
set_option maxRecDepth 20000 in
theorem gX6_plannedIdleCost_X6_deepestWorthwhile : GoodIn wsX6_plannedIdleCost (wsV RX6 45 RX6 yX6_deepestWorthwhile wsX6_deepestWorthwhile) := goodIn_app (goodIn_of _ (by decide +kernel)) ggX6_plannedIdleCost_X6_deepestWorthwhile
set_option maxRecDepth 20000 in
theorem ggX6_plannedIdleCost_X6_idleCost : GoodIn wsX6_plannedIdleCost wsX6_idleCost := goodIn_r _ [31, 10, 11, 12, 4, 13, 14, 15, 16, 17, 23, 24, 25, 26, 27, 18, 19, 20, 21, 22, 32, 33, 34, 35, 36, 37, 38] (by decide +kernel) (by decide +kernel)
set_option maxRecDepth 20000 in
theorem gX6_plannedIdleCost_X6_idleCost : GoodIn wsX6_plannedIdleCost (wsV RX6 49 RX6 yX6_idleCost wsX6_idleCost) := goodIn_app (goodIn_of _ (by decide +kernel)) ggX6_plannedIdleCost_X6_idleCost
set_option maxRecDepth 20000 in
theorem ggX6_leastIdleCost_X6_idleCost : GoodIn wsX6_leastIdleCost wsX6_idleCost := goodIn_r _ [9, 10, 11, 12, 8, 13, 14, 15, 16, 17, 18, 19, 20, 21, 22, 23, 24, 25, 26, 27, 28, 29, 30, 31, 32, 33, 34] (by decide +kernel) (by decide +kernel)
set_option maxRecDepth 20000 in
theorem gX6_leastIdleCost_X6_idleCost : GoodIn wsX6_leastIdleCost (wsV RX6 49 RX6 yX6_idleCost wsX6_idleCost) := goodIn_app (goodIn_of _ (by decide +kernel)) ggX6_leastIdleCost_X6_idleCost
set_option maxRecDepth 20000 in
theorem ggX6_leastIdleCost_X6_latencyOf : GoodIn wsX6_leastIdleCost wsX6_latencyOf := goodIn_r _ [26, 27, 15, 16, 17, 32, 33, 34] (by decide +kernel) (by decide +kernel)
set_option maxRecDepth 20000 in
theorem gX6_leastIdleCost_X6_latencyOf : GoodIn wsX6_leastIdleCost (wsV RX6 33 RX6 yX6_latencyOf wsX6_latencyOf) := goodIn_app (goodIn_of _ (by decide +kernel)) ggX6_leastIdleCost_X6_latencyOf
set_option maxRecDepth 20000 in
theorem ggX7_init_X6_init : GoodIn wsX7_init wsX6_init := goodIn_r _ [41, 42, 2, 3, 8, 43, 44, 45, 98, 99, 100] (by decide +kernel) (by decide +kernel)
set_option maxRecDepth 20000 in
theorem gX7_init_X6_init : GoodIn wsX7_init (wsX6_init) := ggX7_init_X6_init
set_option maxRecDepth 20000 in
theorem ggX7_init_X1_init : GoodIn wsX7_init wsX1_init := goodIn_r _ [48, 49, 2, 3, 8, 50, 51, 52, 53, 54, 55, 56, 114, 115, 116, 117, 118, 119] (by decide +kernel) (by decide +kernel)
set_option maxRecDepth 20000 in
theorem gX7_init_X1_init : GoodIn wsX7_init (wsX1_init) := ggX7_init_X1_init
set_option maxRecDepth 20000 in
theorem ggX7_init_X3_init : GoodIn wsX7_init wsX3_init := goodIn_r _ [59, 60, 2, 3, 8, 61, 62, 63, 64, 120, 121, 122, 123] (by decide +kernel) (by decide +kernel)
set_option maxRecDepth 20000 in
theorem gX7_init_X3_init : GoodIn wsX7_init (wsX3_init) := ggX7_init_X3_init
set_option maxRecDepth 20000 in
theorem ggX7_init_X2_init : GoodIn wsX7_init wsX2_init := goodIn_r _ [67, 68, 2, 3, 8, 69, 70, 124, 125] (by decide +kernel) (by decide +kernel)
set_option maxRecDepth 20000 in
theorem gX7_init_X2_init : GoodIn wsX7_init (wsX2_init) := ggX7_init_X2_init
set_option maxRecDepth 20000 in
theorem ggX7_init_X4_init : GoodIn wsX7_init wsX4_init := goodIn_r _ [73, 74, 2, 3, 8, 75, 76, 77, 78, 79, 80, 126, 127, 128, 129, 130, 131] (by decide +kernel) (by decide +kernel)
set_option maxRecDepth 20000 in
theorem gX7_init_X4_init : GoodIn wsX7_init (wsX4_init) := ggX7_init_X4_init
set_option maxRecDepth 20000 in
theorem ggX7_init_X0_init : GoodIn wsX7_init wsX0_init := goodIn_r _ [83, 84, 2, 3, 8, 85, 86, 87, 88, 89, 90, 132, 133, 134, 135] (by decide +kernel) (by decide +kernel)
set_option maxRecDepth 20000 in
theorem gX7_init_X0_init : GoodIn wsX7_init (wsX0_init) := ggX7_init_X0_init
set_option maxRecDepth 20000 in
theorem ggX7_init_X5_init : GoodIn wsX7_init wsX5_init := goodIn_r _ [93, 94, 2, 3, 95, 96, 97, 136, 137] (by decide +kernel) (by decide +kernel)
set_option maxRecDepth 20000 in
theorem gX7_init_X5_init : GoodIn wsX7_init (wsX5_init) := ggX7_init_X5_init
set_option maxRecDepth 20000 in
theorem ggX7_setState_X7_isWithin : GoodIn wsX7_setState wsX7_isWithin := goodIn_r _ [7] (by decide +kernel) (by decide +kernel)
set_option maxRecDepth 20000 in
theorem gX7_setState_X7_isWithin : GoodIn wsX7_setState (va_wsS RX7 78 yX7_isWithin wsX7_isWithin) := goodIn_app (goodIn_of _ (by decide +kernel)) ggX7_setState_X7_isWithin
set_option maxRecDepth 20000 in
theorem ggX7_setState_X7_wakeForCall : GoodIn wsX7_setState wsX7_wakeForCall := goodIn_r _ [11, 12, 13, 3, 14, 15, 16, 17, 18, 19, 20, 21, 22, 23, 24, 6, 25, 26, 27, 28, 29, 30, 31, 32, 33, 34, 35, 36, 37, 38, 39, 40, 41, 42, 43, 44, 45, 46, 47, 48, 49, 50, 51, 52, 53, 54, 55, 63, 64, 65, 66, 67, 68, 69, 70, 71, 72, 73, 74, 75, 76, 77, 78, 79, 80, 81, 82, 83, 84, 85, 86] (by decide +kernel) (by decide +kernel)
set_option maxRecDepth 20000 in
theorem gX7_setState_X7_wakeForCall : GoodIn wsX7_setState (wsV RX7 89 RX7 yX7_wakeForCall wsX7_wakeForCall) := goodIn_app (goodIn_of _ (by decide +kernel)) ggX7_setState_X7_wakeForCall
set_option maxRecDepth 20000 in
theorem ggX7_setState_X6_change : GoodIn wsX7_setState wsX6_change := goodIn_r _ [59, 23, 60, 30, 61, 6, 62, 76, 77, 78] (by decide +kernel) (by decide +kernel)
set_option maxRecDepth 20000 in
theorem gX7_setState_X6_change : GoodIn wsX7_setState (wsV RX7 92 RX6 yX6_change wsX6_change) := goodIn_app (goodIn_of _ (by decide +kernel)) ggX7_setState_X6_change
set_option maxRecDepth 20000 in
theorem ggX7_setAwake_X7_isWithin : GoodIn wsX7_setAwake wsX7_isWithin := goodIn_r _ [7] (by decide +kernel) (by decide +kernel)
set_option maxRecDepth 20000 in
theorem gX7_setAwake_X7_isWithin : GoodIn wsX7_setAwake (va_wsS RX7 78 yX7_isWithin wsX7_isWithin) := goodIn_app (goodIn_of _ (by decide +kernel)) ggX7_setAwake_X7_isWithin
set_option maxRecDepth 20000 in
theorem ggX7_setAwake_X7_wakeForCall : GoodIn wsX7_setAwake wsX7_wakeForCall := goodIn_r _ [11, 12, 13, 3, 14, 15, 16, 17, 18, 19, 20, 21, 22, 23, 24, 6, 25, 26, 27, 28, 29, 30, 31, 32, 33, 34, 35, 36, 37, 38, 39, 40, 41, 42, 43, 44, 45, 46, 47, 48, 49, 50, 51, 52, 53, 54, 55, 64, 65, 66, 67, 68, 69, 70, 71, 72, 73, 74, 75, 76, 77, 78, 79, 80, 81, 82, 83, 84, 85, 86, 87] (by decide +kernel) (by decide +kernel)
set_option maxRecDepth 20000 in
theorem gX7_setAwake_X7_wakeForCall : GoodIn wsX7_setAwake (wsV RX7 89 RX7 yX7_wakeForCall wsX7_wakeForCall) := goodIn_app (goodIn_of _ (by decide +kernel)) ggX7_setAwake_X7_wakeForCall
set_option maxRecDepth 20000 in
theorem ggX7_setAwake_X6_powerOf : GoodIn wsX7_setAwake wsX6_powerOf := goodIn_r _ [22, 23, 24, 6, 25, 77, 78, 79] (by decide +kernel) (by decide +kernel)
set_option maxRecDepth 20000 in
theorem gX7_setAwake_X6_powerOf : GoodIn wsX7_setAwake (wsV RX7 98 RX6 yX6_powerOf wsX6_powerOf) := goodIn_app (goodIn_of _ (by decide +kernel)) ggX7_setAwake_X6_powerOf
set_option maxRecDepth 20000 in
theorem ggX7_setAwake_X6_change : GoodIn wsX7_setAwake wsX6_change := goodIn_r _ [60, 23, 61, 30, 62, 6, 63, 77, 78, 79] (by decide +kernel) (by decide +kernel)
set_option maxRecDepth 20000 in
theorem gX7_setAwake_X6_change : GoodIn wsX7_setAwake (wsV RX7 92 RX6 yX6_change wsX6_change) := goodIn_app (goodIn_of _ (by decide +kernel)) ggX7_setAwake_X6_change
set_option maxRecDepth 20000 in
theorem ggX7_vote_X7_isWithin : GoodIn wsX7_vote wsX7_isWithin := goodIn_r _ [7] (by decide +kernel) (by decide +kernel)
set_option maxRecDepth 20000 in
theorem gX7_vote_X7_isWithin : GoodIn wsX7_vote (va_wsS RX7 78 yX7_isWithin wsX7_isWithin) := goodIn_app (goodIn_of _ (by decide +kernel)) ggX7_vote_X7_isWithin
set_option maxRecDepth 20000 in
theorem ggX7_vote_X7_wakeForCall : GoodIn wsX7_vote wsX7_wakeForCall := goodIn_r _ [11, 12, 13, 14, 15, 16, 17, 18, 19, 20, 21, 22, 23, 24, 25, 6, 26, 27, 28, 29, 30, 31, 32, 33, 34, 35, 36, 37, 38, 39, 40, 41, 42, 43, 44, 45, 46, 47, 48, 49, 50, 51, 52, 53, 54, 55, 56, 60, 61, 62, 63, 64, 65, 66, 67, 68, 69, 70, 71, 72, 73, 74, 75, 76, 77, 78, 79, 80, 81, 82, 83] (by decide +kernel) (by decide +kernel)
set_option maxRecDepth 20000 in
theorem gX7_vote_X7_wakeForCall : GoodIn wsX7_vote (wsV RX7 89 RX7 yX7_wakeForCall wsX7_wakeForCall) := goodIn_app (goodIn_of _ (by decide +kernel)) ggX7_vote_X7_wakeForCall
set_option maxRecDepth 20000 in
theorem ggX7_vote_X7_exchange : GoodIn wsX7_vote wsX7_exchange := goodIn_r _ [59] (by decide +kernel) (by decide +kernel)
set_option maxRecDepth 20000 in
theorem gX7_vote_X7_exchange : GoodIn wsX7_vote (va_wsS RX7 104 yX7_exchange wsX7_exchange) := goodIn_app (goodIn_of _ (by decide +kernel)) ggX7_vote_X7_exchange
set_option maxRecDepth 20000 in
theorem ggX7_addClock_X1_has : GoodIn wsX7_addClock wsX1_has := goodIn_r _ [12, 13, 93, 94, 95, 96, 97, 98] (by decide +kernel) (by decide +kernel)
set_option maxRecDepth 20000 in
theorem gX7_addClock_X1_has : GoodIn wsX7_addClock (wsV RX7 108 RX1 yX1_has wsX1_has) := goodIn_app (goodIn_of _ (by decide +kernel)) ggX7_addClock_X1_has
set_option maxRecDepth 20000 in
theorem ggX7_addClock_X7_isWithin : GoodIn wsX7_addClock wsX7_isWithin := goodIn_r _ [17] (by decide +kernel) (by decide +kernel)
set_option maxRecDepth 20000 in
theorem gX7_addClock_X7_isWithin : GoodIn wsX7_addClock (va_wsS RX7 78 yX7_isWithin wsX7_isWithin) := goodIn_app (goodIn_of _ (by decide +kernel)) ggX7_addClock_X7_isWithin
set_option maxRecDepth 20000 in
theorem ggX7_addClock_X1_isFull : GoodIn wsX7_addClock wsX1_isFull := goodIn_r _ [21, 13, 93, 94, 95, 96, 97, 98] (by decide +kernel) (by decide +kernel)
set_option maxRecDepth 20000 in
theorem gX7_addClock_X1_isFull : GoodIn wsX7_addClock (wsV RX7 119 RX1 yX1_isFull wsX1_isFull) := goodIn_app (goodIn_of _ (by decide +kernel)) ggX7_addClock_X1_isFull
set_option maxRecDepth 20000 in
theorem ggX7_addClock_X7_wakeForCall : GoodIn wsX7_addClock wsX7_wakeForCall := goodIn_r _ [25, 26, 27, 28, 29, 30, 31, 32, 33, 34, 35, 36, 37, 38, 39, 16, 40, 41, 42, 43, 44, 45, 46, 47, 48, 49, 50, 51, 52, 53, 54, 55, 56, 57, 58, 59, 60, 61, 62, 63, 64, 65, 66, 67, 68, 69, 70, 80, 81, 82, 83, 84, 85, 86, 87, 88, 89, 90, 91, 92, 99, 100, 101, 102, 103, 104, 105, 106, 107, 108, 109] (by decide +kernel) (by decide +kernel)
set_option maxRecDepth 20000 in
theorem gX7_addClock_X7_wakeForCall : GoodIn wsX7_addClock (wsV RX7 89 RX7 yX7_wakeForCall wsX7_wakeForCall) := goodIn_app (goodIn_of _ (by decide +kernel)) ggX7_addClock_X7_wakeForCall
set_option maxRecDepth 20000 in
theorem ggX7_addClock_X1_add : GoodIn wsX7_addClock wsX1_add := goodIn_r _ [74, 75, 13, 76, 77, 78, 79, 19, 20, 11, 21, 39, 16, 40, 93, 94, 95, 96, 97, 98] (by decide +kernel) (by decide +kernel)
set_option maxRecDepth 20000 in
theorem gX7_addClock_X1_add : GoodIn wsX7_addClock (wsV RX7 128 RX1 yX1_add wsX1_add) := goodIn_app (goodIn_of _ (by decide +kernel)) ggX7_addClock_X1_add
set_option maxRecDepth 20000 in
theorem ggX7_use_X1_has : GoodIn wsX7_use wsX1_has := goodIn_r _ [10, 11, 87, 88, 89, 90, 91, 92] (by decide +kernel) (by decide +kernel)
set_option maxRecDepth 20000 in
theorem gX7_use_X1_has : GoodIn wsX7_use (wsV RX7 108 RX1 yX1_has wsX1_has) := goodIn_app (goodIn_of _ (by decide +kernel)) ggX7_use_X1_has
set_option maxRecDepth 20000 in
theorem ggX7_use_X1_usesOf : GoodIn wsX7_use wsX1_usesOf := goodIn_r _ [15, 16, 17, 18, 19, 87, 88, 89, 90, 91, 92] (by decide +kernel) (by decide +kernel)
set_option maxRecDepth 20000 in
theorem gX7_use_X1_usesOf : GoodIn wsX7_use (wsV RX7 134 RX1 yX1_usesOf wsX1_usesOf) := goodIn_app (goodIn_of _ (by decide +kernel)) ggX7_use_X1_usesOf
set_option maxRecDepth 20000 in
theorem ggX7_use_X7_wakeForCall : GoodIn wsX7_use wsX7_wakeForCall := goodIn_r _ [23, 24, 25, 26, 27, 28, 29, 30, 31, 32, 33, 34, 35, 36, 17, 18, 19, 37, 38, 39, 40, 41, 42, 43, 44, 45, 46, 47, 48, 49, 50, 51, 52, 53, 54, 55, 56, 57, 58, 59, 60, 61, 62, 63, 64, 65, 66, 74, 75, 76, 77, 78, 79, 80, 81, 82, 83, 84, 85, 86, 93, 94, 95, 96, 97, 98, 99, 100, 101, 102, 103] (by decide +kernel) (by decide +kernel)
set_option maxRecDepth 20000 in
theorem gX7_use_X7_wakeForCall : GoodIn wsX7_use (wsV RX7 89 RX7 yX7_wakeForCall wsX7_wakeForCall) := goodIn_app (goodIn_of _ (by decide +kernel)) ggX7_use_X7_wakeForCall
set_option maxRecDepth 20000 in
theorem ggX7_use_X1_changeUses : GoodIn wsX7_use wsX1_changeUses := goodIn_r _ [70, 16, 71, 13, 14, 9, 15, 17, 18, 19, 72, 73, 87, 88, 89, 90, 91, 92] (by decide +kernel) (by decide +kernel)
set_option maxRecDepth 20000 in
theorem gX7_use_X1_changeUses : GoodIn wsX7_use (wsV RX7 139 RX1 yX1_changeUses wsX1_changeUses) := goodIn_app (goodIn_of _ (by decide +kernel)) ggX7_use_X1_changeUses
set_option maxRecDepth 20000 in
theorem ggX7_release_X1_has : GoodIn wsX7_release wsX1_has := goodIn_r _ [10, 11, 87, 88, 89, 90, 91, 92] (by decide +kernel) (by decide +kernel)
set_option maxRecDepth 20000 in
theorem gX7_release_X1_has : GoodIn wsX7_release (wsV RX7 108 RX1 yX1_has wsX1_has) := goodIn_app (goodIn_of _ (by decide +kernel)) ggX7_release_X1_has
set_option maxRecDepth 20000 in
theorem ggX7_release_X1_usesOf : GoodIn wsX7_release wsX1_usesOf := goodIn_r _ [15, 16, 17, 18, 19, 87, 88, 89, 90, 91, 92] (by decide +kernel) (by decide +kernel)
set_option maxRecDepth 20000 in
theorem gX7_release_X1_usesOf : GoodIn wsX7_release (wsV RX7 134 RX1 yX1_usesOf wsX1_usesOf) := goodIn_app (goodIn_of _ (by decide +kernel)) ggX7_release_X1_usesOf
set_option maxRecDepth 20000 in
theorem ggX7_release_X7_wakeForCall : GoodIn wsX7_release wsX7_wakeForCall := goodIn_r _ [23, 24, 25, 26, 27, 28, 29, 30, 31, 32, 33, 34, 35, 36, 17, 18, 19, 37, 38, 39, 40, 41, 42, 43, 44, 45, 46, 47, 48, 49, 50, 51, 52, 53, 54, 55, 56, 57, 58, 59, 60, 61, 62, 63, 64, 65, 66, 74, 75, 76, 77, 78, 79, 80, 81, 82, 83, 84, 85, 86, 93, 94, 95, 96, 97, 98, 99, 100, 101, 102, 103] (by decide +kernel) (by decide +kernel)
set_option maxRecDepth 20000 in
theorem gX7_release_X7_wakeForCall : GoodIn wsX7_release (wsV RX7 89 RX7 yX7_wakeForCall wsX7_wakeForCall) := goodIn_app (goodIn_of _ (by decide +kernel)) ggX7_release_X7_wakeForCall
set_option maxRecDepth 20000 in
theorem ggX7_release_X1_changeUses : GoodIn wsX7_release wsX1_changeUses := goodIn_r _ [70, 16, 71, 13, 14, 9, 15, 17, 18, 19, 72, 73, 87, 88, 89, 90, 91, 92] (by decide +kernel) (by decide +kernel)
set_option maxRecDepth 20000 in
theorem gX7_release_X1_changeUses : GoodIn wsX7_release (wsV RX7 139 RX1 yX1_changeUses wsX1_changeUses) := goodIn_app (goodIn_of _ (by decide +kernel)) ggX7_release_X1_changeUses
set_option maxRecDepth 20000 in
theorem ggX7_runs_X1_has : GoodIn wsX7_runs wsX1_has := goodIn_r _ [8, 9, 35, 36, 37, 38, 39, 40] (by decide +kernel) (by decide +kernel)
set_option maxRecDepth 20000 in
theorem gX7_runs_X1_has : GoodIn wsX7_runs (wsV RX7 108 RX1 yX1_has wsX1_has) := goodIn_app (goodIn_of _ (by decide +kernel)) ggX7_runs_X1_has
set_option maxRecDepth 20000 in
theorem ggX7_runs_X1_isRunning : GoodIn wsX7_runs wsX1_isRunning := goodIn_r _ [13, 14, 15, 16, 17, 7, 18, 9, 19, 20, 21, 5, 6, 8, 35, 36, 37, 38, 39, 40] (by decide +kernel) (by decide +kernel)
set_option maxRecDepth 20000 in
theorem gX7_runs_X1_isRunning : GoodIn wsX7_runs (wsV RX7 145 RX1 yX1_isRunning wsX1_isRunning) := goodIn_app (goodIn_of _ (by decide +kernel)) ggX7_runs_X1_isRunning
set_option maxRecDepth 20000 in
theorem ggX7_frequency_X1_has : GoodIn wsX7_frequency wsX1_has := goodIn_r _ [8, 9, 31, 32, 33, 34, 35, 36] (by decide +kernel) (by decide +kernel)
set_option maxRecDepth 20000 in
theorem gX7_frequency_X1_has : GoodIn wsX7_frequency (wsV RX7 108 RX1 yX1_has wsX1_has) := goodIn_app (goodIn_of _ (by decide +kernel)) ggX7_frequency_X1_has
set_option maxRecDepth 20000 in
theorem ggX7_frequency_X1_frequencyOf : GoodIn wsX7_frequency wsX1_frequencyOf := goodIn_r _ [13, 14, 15, 16, 17, 31, 32, 33, 34, 35, 36] (by decide +kernel) (by decide +kernel)
set_option maxRecDepth 20000 in
theorem gX7_frequency_X1_frequencyOf : GoodIn wsX7_frequency (wsV RX7 148 RX1 yX1_frequencyOf wsX1_frequencyOf) := goodIn_app (goodIn_of _ (by decide +kernel)) ggX7_frequency_X1_frequencyOf
set_option maxRecDepth 20000 in
theorem ggX7_depth_X1_leastDeepest : GoodIn wsX7_depth wsX1_leastDeepest := goodIn_r _ [11, 12, 13, 14, 15, 4, 5, 6, 16, 17, 18, 10, 19, 20, 21, 22, 23, 24, 25, 39, 40, 41, 42, 43, 44] (by decide +kernel) (by decide +kernel)
set_option maxRecDepth 20000 in
theorem gX7_depth_X1_leastDeepest : GoodIn wsX7_depth (wsV RX7 151 RX1 yX1_leastDeepest wsX1_leastDeepest) := goodIn_app (goodIn_of _ (by decide +kernel)) ggX7_depth_X1_leastDeepest
set_option maxRecDepth 20000 in
theorem ggX7_breakEven_X7_isWithin : GoodIn wsX7_breakEven wsX7_isWithin := goodIn_r _ [7] (by decide +kernel) (by decide +kernel)
set_option maxRecDepth 20000 in
theorem gX7_breakEven_X7_isWithin : GoodIn wsX7_breakEven (va_wsS RX7 78 yX7_isWithin wsX7_isWithin) := goodIn_app (goodIn_of _ (by decide +kernel)) ggX7_breakEven_X7_isWithin
set_option maxRecDepth 20000 in
theorem ggX7_breakEven_X6_leastWorthwhile : GoodIn wsX7_breakEven wsX6_leastWorthwhile := goodIn_r _ [12, 13, 14, 15, 11, 16, 17, 18, 6, 19, 20, 21, 22, 23, 24, 25, 26, 27, 28, 29, 43, 44, 45] (by decide +kernel) (by decide +kernel)
set_option maxRecDepth 20000 in
theorem gX7_breakEven_X6_leastWorthwhile : GoodIn wsX7_breakEven (wsV RX7 162 RX6 yX6_leastWorthwhile wsX6_leastWorthwhile) := goodIn_app (goodIn_of _ (by decide +kernel)) ggX7_breakEven_X6_leastWorthwhile
set_option maxRecDepth 20000 in
theorem ggX7_schedule_X7_isWithin : GoodIn wsX7_schedule wsX7_isWithin := goodIn_r _ [10] (by decide +kernel) (by decide +kernel)
set_option maxRecDepth 20000 in
theorem gX7_schedule_X7_isWithin : GoodIn wsX7_schedule (va_wsS RX7 78 yX7_isWithin wsX7_isWithin) := goodIn_app (goodIn_of _ (by decide +kernel)) ggX7_schedule_X7_isWithin
set_option maxRecDepth 20000 in
theorem ggX7_schedule_X3_isFull : GoodIn wsX7_schedule wsX3_isFull := goodIn_r _ [15, 16, 86, 87, 88, 89] (by decide +kernel) (by decide +kernel)
set_option maxRecDepth 20000 in
theorem gX7_schedule_X3_isFull : GoodIn wsX7_schedule (wsV RX7 167 RX3 yX3_isFull wsX3_isFull) := goodIn_app (goodIn_of _ (by decide +kernel)) ggX7_schedule_X3_isFull
set_option maxRecDepth 20000 in
theorem ggX7_schedule_X7_wakeForCall : GoodIn wsX7_schedule wsX7_wakeForCall := goodIn_r _ [20, 21, 22, 23, 24, 25, 26, 27, 28, 29, 30, 31, 32, 33, 34, 9, 35, 36, 37, 38, 39, 40, 41, 42, 43, 44, 45, 46, 47, 48, 49, 50, 51, 52, 5, 53, 54, 55, 56, 57, 58, 59, 60, 61, 62, 63, 64, 73, 74, 75, 76, 77, 78, 79, 80, 81, 82, 83, 84, 85, 90, 91, 92, 93, 94, 95, 96, 97, 98, 99, 100] (by decide +kernel) (by decide +kernel)
set_option maxRecDepth 20000 in
theorem gX7_schedule_X7_wakeForCall : GoodIn wsX7_schedule (wsV RX7 89 RX7 yX7_wakeForCall wsX7_wakeForCall) := goodIn_app (goodIn_of _ (by decide +kernel)) ggX7_schedule_X7_wakeForCall
set_option maxRecDepth 20000 in
theorem ggX7_schedule_X3_add : GoodIn wsX7_schedule wsX3_add := goodIn_r _ [68, 16, 69, 70, 71, 72, 12, 13, 14, 15, 86, 87, 88, 89] (by decide +kernel) (by decide +kernel)
set_option maxRecDepth 20000 in
theorem gX7_schedule_X3_add : GoodIn wsX7_schedule (wsV RX7 170 RX3 yX3_add wsX3_add) := goodIn_app (goodIn_of _ (by decide +kernel)) ggX7_schedule_X3_add
set_option maxRecDepth 20000 in
theorem ggX7_addEvent_X7_isWithin : GoodIn wsX7_addEvent wsX7_isWithin := goodIn_r _ [10] (by decide +kernel) (by decide +kernel)
set_option maxRecDepth 20000 in
theorem gX7_addEvent_X7_isWithin : GoodIn wsX7_addEvent (va_wsS RX7 78 yX7_isWithin wsX7_isWithin) := goodIn_app (goodIn_of _ (by decide +kernel)) ggX7_addEvent_X7_isWithin
set_option maxRecDepth 20000 in
theorem ggX7_addEvent_X3_isFull : GoodIn wsX7_addEvent wsX3_isFull := goodIn_r _ [15, 16, 38, 39, 40, 41] (by decide +kernel) (by decide +kernel)
set_option maxRecDepth 20000 in
theorem gX7_addEvent_X3_isFull : GoodIn wsX7_addEvent (wsV RX7 167 RX3 yX3_isFull wsX3_isFull) := goodIn_app (goodIn_of _ (by decide +kernel)) ggX7_addEvent_X3_isFull
set_option maxRecDepth 20000 in
theorem ggX7_addEvent_X3_add : GoodIn wsX7_addEvent wsX3_add := goodIn_r _ [20, 16, 21, 22, 23, 24, 12, 13, 14, 15, 38, 39, 40, 41] (by decide +kernel) (by decide +kernel)
set_option maxRecDepth 20000 in
theorem gX7_addEvent_X3_add : GoodIn wsX7_addEvent (wsV RX7 170 RX3 yX3_add wsX3_add) := goodIn_app (goodIn_of _ (by decide +kernel)) ggX7_addEvent_X3_add
set_option maxRecDepth 20000 in
theorem ggX7_setRule_X7_isWithin : GoodIn wsX7_setRule wsX7_isWithin := goodIn_r _ [7] (by decide +kernel) (by decide +kernel)
set_option maxRecDepth 20000 in
theorem gX7_setRule_X7_isWithin : GoodIn wsX7_setRule (va_wsS RX7 78 yX7_isWithin wsX7_isWithin) := goodIn_app (goodIn_of _ (by decide +kernel)) ggX7_setRule_X7_isWithin
set_option maxRecDepth 20000 in
theorem ggX7_setRule_X7_wakeForCall : GoodIn wsX7_setRule wsX7_wakeForCall := goodIn_r _ [11, 12, 13, 14, 15, 16, 17, 18, 19, 20, 21, 22, 23, 24, 25, 6, 26, 27, 28, 29, 30, 31, 32, 33, 34, 35, 36, 37, 38, 39, 40, 41, 42, 43, 44, 45, 46, 47, 48, 49, 50, 51, 52, 53, 54, 55, 56, 57, 58, 59, 60, 61, 62, 63, 64, 65, 66, 67, 68, 69, 70, 71, 72, 73, 74, 75, 76, 77, 78, 79, 80] (by decide +kernel) (by decide +kernel)
set_option maxRecDepth 20000 in
theorem gX7_setRule_X7_wakeForCall : GoodIn wsX7_setRule (wsV RX7 89 RX7 yX7_wakeForCall wsX7_wakeForCall) := goodIn_app (goodIn_of _ (by decide +kernel)) ggX7_setRule_X7_wakeForCall
set_option maxRecDepth 20000 in
theorem ggX7_nextWakeup_X3_leastLatest : GoodIn wsX7_nextWakeup wsX3_leastLatest := goodIn_r _ [7, 8, 9, 10, 24, 25, 26, 27] (by decide +kernel) (by decide +kernel)
set_option maxRecDepth 20000 in
theorem gX7_nextWakeup_X3_leastLatest : GoodIn wsX7_nextWakeup (wsV RX7 181 RX3 yX3_leastLatest wsX3_leastLatest) := goodIn_app (goodIn_of _ (by decide +kernel)) ggX7_nextWakeup_X3_leastLatest
set_option maxRecDepth 20000 in
theorem ggX7_play_X7_isWithin : GoodIn wsX7_play wsX7_isWithin := goodIn_r _ [7] (by decide +kernel) (by decide +kernel)
set_option maxRecDepth 20000 in
theorem gX7_play_X7_isWithin : GoodIn wsX7_play (va_wsS RX7 78 yX7_isWithin wsX7_isWithin) := goodIn_app (goodIn_of _ (by decide +kernel)) ggX7_play_X7_isWithin
set_option maxRecDepth 20000 in
theorem ggX7_play_X7_playTick : GoodIn wsX7_play wsX7_playTick := goodIn_r _ [11, 12, 13, 14, 3, 15, 16, 17, 6, 18, 19, 20, 21, 22, 23, 24, 25, 26, 27, 28, 29, 30, 31, 32, 33, 34, 35, 36, 37, 38, 39, 40, 41, 42, 43, 44, 45, 46, 47, 48, 49, 50, 51, 52, 53, 54, 55, 56, 57, 58, 59, 60, 61, 62, 63, 64, 65, 66, 67, 68, 69, 70, 71, 72, 73, 74, 75, 76, 77, 78, 79, 80, 81, 82, 83, 84, 85, 86, 87, 88, 89, 90, 91, 92, 93, 94, 95, 96, 97, 98, 99, 100, 101, 102, 103, 104, 105, 106, 107, 108, 109, 110, 111, 112, 113, 114, 115, 116, 117, 118, 119, 120, 121, 122, 123, 124, 125, 126, 127, 128, 129, 130, 131, 132, 133, 134, 135, 136, 137, 138, 139, 140, 141, 142, 143, 144, 145, 146, 147, 148, 149, 150, 151, 152, 153, 154, 155, 156, 157, 158, 159, 160, 161, 162, 163, 164, 165, 166, 167, 168, 169, 170, 171, 172, 173, 174, 175, 176, 177, 178, 179, 180, 181, 182, 183, 184, 185, 186, 187, 188, 189, 190, 191, 192, 193, 194, 195, 196, 197, 198, 199, 200, 201, 202, 203, 204, 205, 206, 207, 208, 209, 210, 211, 212, 213, 214, 215, 216, 217, 218, 219, 220, 221, 222, 223, 224, 225, 226, 227, 228, 229, 230, 231, 232, 233, 234, 235] (by decide +kernel) (by decide +kernel)
set_option maxRecDepth 20000 in
theorem gX7_play_X7_playTick : GoodIn wsX7_play (wsV RX7 186 RX7 yX7_playTick wsX7_playTick) := goodIn_app (goodIn_of _ (by decide +kernel)) ggX7_play_X7_playTick
set_option maxRecDepth 20000 in
theorem ggX7_ticksIn_X7_isWithin : GoodIn wsX7_ticksIn wsX7_isWithin := goodIn_r _ [7] (by decide +kernel) (by decide +kernel)
set_option maxRecDepth 20000 in
theorem gX7_ticksIn_X7_isWithin : GoodIn wsX7_ticksIn (va_wsS RX7 78 yX7_isWithin wsX7_isWithin) := goodIn_app (goodIn_of _ (by decide +kernel)) ggX7_ticksIn_X7_isWithin
set_option maxRecDepth 20000 in
theorem ggX7_ticksIn_X7_read : GoodIn wsX7_ticksIn wsX7_read := goodIn_r _ [10] (by decide +kernel) (by decide +kernel)
set_option maxRecDepth 20000 in
theorem gX7_ticksIn_X7_read : GoodIn wsX7_ticksIn (va_wsS RX7 196 yX7_read wsX7_read) := goodIn_app (goodIn_of _ (by decide +kernel)) ggX7_ticksIn_X7_read
set_option maxRecDepth 20000 in
theorem ggX7_setHarvest_X7_isWithin : GoodIn wsX7_setHarvest wsX7_isWithin := goodIn_r _ [7] (by decide +kernel) (by decide +kernel)
set_option maxRecDepth 20000 in
theorem gX7_setHarvest_X7_isWithin : GoodIn wsX7_setHarvest (va_wsS RX7 78 yX7_isWithin wsX7_isWithin) := goodIn_app (goodIn_of _ (by decide +kernel)) ggX7_setHarvest_X7_isWithin
set_option maxRecDepth 20000 in
theorem ggX7_setHarvest_X7_exchange : GoodIn wsX7_setHarvest wsX7_exchange := goodIn_r _ [10] (by decide +kernel) (by decide +kernel)
set_option maxRecDepth 20000 in
theorem gX7_setHarvest_X7_exchange : GoodIn wsX7_setHarvest (va_wsS RX7 104 yX7_exchange wsX7_exchange) := goodIn_app (goodIn_of _ (by decide +kernel)) ggX7_setHarvest_X7_exchange
set_option maxRecDepth 20000 in
theorem ggX7_plannedWakeups_X7_isWithin : GoodIn wsX7_plannedWakeups wsX7_isWithin := goodIn_r _ [9] (by decide +kernel) (by decide +kernel)
set_option maxRecDepth 20000 in
theorem gX7_plannedWakeups_X7_isWithin : GoodIn wsX7_plannedWakeups (va_wsS RX7 78 yX7_isWithin wsX7_isWithin) := goodIn_app (goodIn_of _ (by decide +kernel)) ggX7_plannedWakeups_X7_isWithin
set_option maxRecDepth 20000 in
theorem ggX7_plannedWakeups_X5_countPlanned : GoodIn wsX7_plannedWakeups wsX5_countPlanned := goodIn_r _ [14, 15, 16, 17, 18, 19, 20, 21, 22, 36, 37, 38, 39] (by decide +kernel) (by decide +kernel)
set_option maxRecDepth 20000 in
theorem gX7_plannedWakeups_X5_countPlanned : GoodIn wsX7_plannedWakeups (wsV RX7 225 RX5 yX5_countPlanned wsX5_countPlanned) := goodIn_app (goodIn_of _ (by decide +kernel)) ggX7_plannedWakeups_X5_countPlanned
set_option maxRecDepth 20000 in
theorem ggX7_fewestWakeups_X7_isWithin : GoodIn wsX7_fewestWakeups wsX7_isWithin := goodIn_r _ [9] (by decide +kernel) (by decide +kernel)
set_option maxRecDepth 20000 in
theorem gX7_fewestWakeups_X7_isWithin : GoodIn wsX7_fewestWakeups (va_wsS RX7 78 yX7_isWithin wsX7_isWithin) := goodIn_app (goodIn_of _ (by decide +kernel)) ggX7_fewestWakeups_X7_isWithin
set_option maxRecDepth 20000 in
theorem ggX7_fewestWakeups_X5_countFewest : GoodIn wsX7_fewestWakeups wsX5_countFewest := goodIn_r _ [14, 15, 16, 17, 18, 13, 19, 20, 21, 22, 23, 24, 25, 26, 27, 28, 29, 30, 31, 32, 33, 34, 35, 36, 37, 38, 39, 40, 41, 42, 56, 57, 58, 59, 60, 61] (by decide +kernel) (by decide +kernel)
set_option maxRecDepth 20000 in
theorem gX7_fewestWakeups_X5_countFewest : GoodIn wsX7_fewestWakeups (wsV RX7 229 RX5 yX5_countFewest wsX5_countFewest) := goodIn_app (goodIn_of _ (by decide +kernel)) ggX7_fewestWakeups_X5_countFewest
set_option maxRecDepth 20000 in
theorem ggX7_plannedCost_X7_isWithin : GoodIn wsX7_plannedCost wsX7_isWithin := goodIn_r _ [10] (by decide +kernel) (by decide +kernel)
set_option maxRecDepth 20000 in
theorem gX7_plannedCost_X7_isWithin : GoodIn wsX7_plannedCost (va_wsS RX7 78 yX7_isWithin wsX7_isWithin) := goodIn_app (goodIn_of _ (by decide +kernel)) ggX7_plannedCost_X7_isWithin
set_option maxRecDepth 20000 in
theorem ggX7_plannedCost_X7_depth : GoodIn wsX7_plannedCost wsX7_depth := goodIn_r _ [14, 15, 16, 17, 18, 19, 20, 21, 22, 23, 24, 25, 26, 27, 28, 29, 30, 31, 32, 33, 34, 35, 36, 37, 38, 39, 95, 96, 97, 98, 99, 100, 101, 102, 103, 104, 105, 106, 107, 108, 109, 110, 111, 112, 113] (by decide +kernel) (by decide +kernel)
set_option maxRecDepth 20000 in
theorem gX7_plannedCost_X7_depth : GoodIn wsX7_plannedCost (wsV RX7 233 RX7 yX7_depth wsX7_depth) := goodIn_app (goodIn_of _ (by decide +kernel)) ggX7_plannedCost_X7_depth
set_option maxRecDepth 20000 in
theorem ggX7_plannedCost_X5_sumPlanned : GoodIn wsX7_plannedCost wsX5_sumPlanned := goodIn_r _ [44, 45, 46, 47, 43, 48, 49, 50, 51, 52, 53, 54, 55, 56, 57, 58, 59, 60, 61, 62, 63, 64, 65, 66, 67, 68, 69, 70, 71, 72, 73, 74, 75, 9, 76, 77, 78, 79, 80, 81, 82, 83, 84, 85, 86, 87, 88, 89, 90, 91, 92, 93, 94, 114, 115, 116, 117, 118, 119, 120] (by decide +kernel) (by decide +kernel)
set_option maxRecDepth 20000 in
theorem gX7_plannedCost_X5_sumPlanned : GoodIn wsX7_plannedCost (wsV RX7 236 RX5 yX5_sumPlanned wsX5_sumPlanned) := goodIn_app (goodIn_of _ (by decide +kernel)) ggX7_plannedCost_X5_sumPlanned
set_option maxRecDepth 20000 in
theorem ggX7_leastCost_X7_isWithin : GoodIn wsX7_leastCost wsX7_isWithin := goodIn_r _ [10] (by decide +kernel) (by decide +kernel)
set_option maxRecDepth 20000 in
theorem gX7_leastCost_X7_isWithin : GoodIn wsX7_leastCost (va_wsS RX7 78 yX7_isWithin wsX7_isWithin) := goodIn_app (goodIn_of _ (by decide +kernel)) ggX7_leastCost_X7_isWithin
set_option maxRecDepth 20000 in
theorem ggX7_leastCost_X7_depth : GoodIn wsX7_leastCost wsX7_depth := goodIn_r _ [14, 15, 16, 17, 18, 19, 20, 21, 22, 23, 24, 25, 26, 27, 28, 29, 30, 31, 32, 33, 34, 35, 36, 37, 38, 39, 103, 104, 105, 106, 107, 108, 109, 110, 111, 112, 113, 114, 115, 116, 117, 118, 119, 120, 121] (by decide +kernel) (by decide +kernel)
set_option maxRecDepth 20000 in
theorem gX7_leastCost_X7_depth : GoodIn wsX7_leastCost (wsV RX7 233 RX7 yX7_depth wsX7_depth) := goodIn_app (goodIn_of _ (by decide +kernel)) ggX7_leastCost_X7_depth
set_option maxRecDepth 20000 in
theorem ggX7_leastCost_X5_sumLeast : GoodIn wsX7_leastCost wsX5_sumLeast := goodIn_r _ [44, 45, 46, 47, 48, 49, 50, 51, 18, 19, 20, 52, 53, 54, 55, 56, 57, 58, 59, 60, 61, 9, 62, 63, 64, 65, 66, 67, 68, 69, 70, 71, 72, 73, 74, 75, 76, 77, 78, 79, 43, 80, 81, 82, 83, 84, 85, 86, 87, 88, 89, 90, 91, 92, 93, 94, 95, 96, 97, 98, 99, 100, 101, 102, 122, 123, 124, 125, 126, 127, 128, 129, 130] (by decide +kernel) (by decide +kernel)
set_option maxRecDepth 20000 in
theorem gX7_leastCost_X5_sumLeast : GoodIn wsX7_leastCost (wsV RX7 240 RX5 yX5_sumLeast wsX5_sumLeast) := goodIn_app (goodIn_of _ (by decide +kernel)) ggX7_leastCost_X5_sumLeast
set_option maxRecDepth 20000 in
theorem ggX7_playTick_X7_wakeIfCalledFor : GoodIn wsX7_playTick wsX7_wakeIfCalledFor := goodIn_r _ [9, 10, 4, 2, 11, 1, 12, 13, 14, 8, 15, 16, 17, 18, 19, 20, 21, 22, 23, 24, 25, 26, 27, 28, 29, 30, 31, 32, 33, 34, 35, 36, 37, 38, 39, 40, 41, 42, 43, 44, 45, 46, 47, 48, 49, 50, 51, 52, 53, 54, 55, 56, 57, 58, 59, 60, 61, 62, 63, 64, 65, 66, 67, 68, 69, 70, 71, 72, 73, 74, 75, 189, 190, 191, 192, 193, 194, 195, 196, 197, 198, 199, 200, 201, 202, 203, 204, 205, 206, 207, 208, 209, 210, 211, 212, 213, 214, 215, 216] (by decide +kernel) (by decide +kernel)
set_option maxRecDepth 20000 in
theorem gX7_playTick_X7_wakeIfCalledFor : GoodIn wsX7_playTick (wsV RX7 243 RX7 yX7_wakeIfCalledFor wsX7_wakeIfCalledFor) := goodIn_app (goodIn_of _ (by decide +kernel)) ggX7_playTick_X7_wakeIfCalledFor
set_option maxRecDepth 20000 in
theorem ggX7_playTick_X7_serveWhatIsDue : GoodIn wsX7_playTick wsX7_serveWhatIsDue := goodIn_r _ [79, 10, 4, 21, 2, 11, 80, 81, 82, 25, 83, 27, 28, 84, 29, 85, 40, 41, 37, 42, 43, 44, 8, 45, 51, 52, 53, 54, 55, 56, 57, 189, 190, 191, 192, 193, 194, 195, 196, 197, 198, 199, 200, 201, 202, 203, 204, 205, 206, 207, 208, 209, 210, 211, 212, 213, 214] (by decide +kernel) (by decide +kernel)
set_option maxRecDepth 20000 in
theorem gX7_playTick_X7_serveWhatIsDue : GoodIn wsX7_playTick (wsV RX7 246 RX7 yX7_serveWhatIsDue wsX7_serveWhatIsDue) := goodIn_app (goodIn_of _ (by decide +kernel)) ggX7_playTick_X7_serveWhatIsDue
set_option maxRecDepth 20000 in
theorem ggX7_playTick_X7_chooseState : GoodIn wsX7_playTick wsX7_chooseState := goodIn_r _ [89, 90, 11, 63, 91, 73, 74, 75, 12, 13, 14, 8, 15, 16, 4, 17, 18, 19, 20, 21, 22, 23, 24, 25, 26, 27, 28, 29, 92, 93, 94, 95, 96, 97, 98, 99, 100, 101, 102, 103, 104, 105, 106, 107, 108, 109, 110, 111, 112, 113, 114, 115, 116, 117, 118, 119, 37, 120, 46, 47, 48, 49, 50, 44, 45, 121, 122, 123, 68, 124, 71, 125, 70, 126, 127, 128, 129, 130, 131, 132, 133, 134, 135, 136, 137, 138, 39, 40, 41, 42, 43, 189, 190, 191, 192, 193, 194, 195, 196, 197, 198, 199, 200, 201, 215, 216, 208, 209, 210, 211, 217, 218, 219, 220, 221, 222, 212, 213, 214] (by decide +kernel) (by decide +kernel)
set_option maxRecDepth 20000 in
theorem gX7_playTick_X7_chooseState : GoodIn wsX7_playTick (wsV RX7 249 RX7 yX7_chooseState wsX7_chooseState) := goodIn_app (goodIn_of _ (by decide +kernel)) ggX7_playTick_X7_chooseState
set_option maxRecDepth 20000 in
theorem ggX7_playTick_X7_fallAsleep : GoodIn wsX7_playTick wsX7_fallAsleep := goodIn_r _ [142, 1, 4, 64, 2, 11, 143, 135, 136, 37, 137, 138, 44, 8, 45, 51, 52, 53, 54, 55, 56, 57, 189, 190, 191, 192, 193, 194, 195, 196, 197, 198, 199, 200, 201, 202, 203, 204, 205, 206, 207, 212, 213, 214] (by decide +kernel) (by decide +kernel)
set_option maxRecDepth 20000 in
theorem gX7_playTick_X7_fallAsleep : GoodIn wsX7_playTick (wsV RX7 252 RX7 yX7_fallAsleep wsX7_fallAsleep) := goodIn_app (goodIn_of _ (by decide +kernel)) ggX7_playTick_X7_fallAsleep
set_option maxRecDepth 20000 in
theorem ggX7_playTick_X4_countTick : GoodIn wsX7_playTick wsX4_countTick := goodIn_r _ [147, 148, 44, 8, 45, 149, 150, 202, 203, 204, 205, 206, 207] (by decide +kernel) (by decide +kernel)
set_option maxRecDepth 20000 in
theorem gX7_playTick_X4_countTick : GoodIn wsX7_playTick (wsV RX7 256 RX4 yX4_countTick wsX4_countTick) := goodIn_app (goodIn_of _ (by decide +kernel)) ggX7_playTick_X4_countTick
set_option maxRecDepth 20000 in
theorem ggX7_playTick_X7_powerOfTick : GoodIn wsX7_playTick wsX7_powerOfTick := goodIn_r _ [154, 11, 1, 12, 13, 14, 8, 15, 16, 4, 17, 18, 19, 20, 21, 22, 23, 24, 25, 26, 27, 28, 29, 58, 47, 48, 37, 49, 50, 44, 45, 85, 40, 41, 42, 43, 189, 190, 191, 192, 193, 194, 195, 196, 197, 198, 199, 200, 201, 208, 209, 210, 211, 212, 213, 214] (by decide +kernel) (by decide +kernel)
set_option maxRecDepth 20000 in
theorem gX7_playTick_X7_powerOfTick : GoodIn wsX7_playTick (wsV RX7 259 RX7 yX7_powerOfTick wsX7_powerOfTick) := goodIn_app (goodIn_of _ (by decide +kernel)) ggX7_playTick_X7_powerOfTick
set_option maxRecDepth 20000 in
theorem ggX7_playTick_X4_spend : GoodIn wsX7_playTick wsX4_spend := goodIn_r _ [55, 56, 57, 202, 203, 204, 205, 206, 207] (by decide +kernel) (by decide +kernel)
set_option maxRecDepth 20000 in
theorem gX7_playTick_X4_spend : GoodIn wsX7_playTick (wsV RX7 262 RX4 yX4_spend wsX4_spend) := goodIn_app (goodIn_of _ (by decide +kernel)) ggX7_playTick_X4_spend
set_option maxRecDepth 20000 in
theorem ggX7_playTick_J9_floorMod_7cf53 : GoodIn wsX7_playTick wsJ9_floorMod_7cf53 := goodIn_r _ [158] (by decide +kernel) (by decide +kernel)
set_option maxRecDepth 20000 in
theorem gX7_playTick_J9_floorMod_7cf53 : GoodIn wsX7_playTick (va_wsS RX7 266 yJ9_floorMod_7cf53 wsJ9_floorMod_7cf53) := goodIn_app (goodIn_of _ (by decide +kernel)) ggX7_playTick_J9_floorMod_7cf53
set_option maxRecDepth 20000 in
theorem ggX7_playTick_X4_takeUnpaid : GoodIn wsX7_playTick wsX4_takeUnpaid := goodIn_r _ [162, 57, 202, 203, 204, 205, 206, 207] (by decide +kernel) (by decide +kernel)
set_option maxRecDepth 20000 in
theorem gX7_playTick_X4_takeUnpaid : GoodIn wsX7_playTick (wsV RX7 269 RX4 yX4_takeUnpaid wsX4_takeUnpaid) := goodIn_app (goodIn_of _ (by decide +kernel)) ggX7_playTick_X4_takeUnpaid
set_option maxRecDepth 20000 in
theorem ggX7_playTick_X0_takeTick : GoodIn wsX7_playTick wsX0_takeTick := goodIn_r _ [167, 168, 169, 170, 171, 172, 173, 74, 174, 175, 176, 177, 44, 8, 45, 178, 179, 180, 166, 181, 182, 183, 184, 73, 75, 185, 186, 187, 157, 188, 223, 224, 225, 226] (by decide +kernel) (by decide +kernel)
set_option maxRecDepth 20000 in
theorem gX7_playTick_X0_takeTick : GoodIn wsX7_playTick (wsV RX7 273 RX0 yX0_takeTick wsX0_takeTick) := goodIn_app (goodIn_of _ (by decide +kernel)) ggX7_playTick_X0_takeTick
set_option maxRecDepth 20000 in
theorem ggX7_wakeIfCalledFor_X7_ticksToWakeup : GoodIn wsX7_wakeIfCalledFor wsX7_ticksToWakeup := goodIn_r _ [10, 11, 2, 12, 13, 14, 9, 15, 16, 17, 18, 19, 20, 21, 22, 23, 24, 71, 72, 73, 74, 75, 76, 77, 78, 79, 80, 81, 82, 83, 90, 91, 92, 93] (by decide +kernel) (by decide +kernel)
set_option maxRecDepth 20000 in
theorem gX7_wakeIfCalledFor_X7_ticksToWakeup : GoodIn wsX7_wakeIfCalledFor (wsV RX7 277 RX7 yX7_ticksToWakeup wsX7_ticksToWakeup) := goodIn_app (goodIn_of _ (by decide +kernel)) ggX7_wakeIfCalledFor_X7_ticksToWakeup
set_option maxRecDepth 20000 in
theorem ggX7_wakeIfCalledFor_X3_isAnyDue : GoodIn wsX7_wakeIfCalledFor wsX3_isAnyDue := goodIn_r _ [28, 22, 23, 90, 91, 92, 93] (by decide +kernel) (by decide +kernel)
set_option maxRecDepth 20000 in
theorem gX7_wakeIfCalledFor_X3_isAnyDue : GoodIn wsX7_wakeIfCalledFor (wsV RX7 280 RX3 yX3_isAnyDue wsX3_isAnyDue) := goodIn_app (goodIn_of _ (by decide +kernel)) ggX7_wakeIfCalledFor_X3_isAnyDue
set_option maxRecDepth 20000 in
theorem ggX7_wakeIfCalledFor_X6_wakingCost : GoodIn wsX7_wakeIfCalledFor wsX6_wakingCost := goodIn_r _ [33, 34, 35, 36, 32, 37, 38, 39, 9, 40, 41, 42, 43, 44, 45, 94, 95, 96] (by decide +kernel) (by decide +kernel)
set_option maxRecDepth 20000 in
theorem gX7_wakeIfCalledFor_X6_wakingCost : GoodIn wsX7_wakeIfCalledFor (wsV RX7 283 RX6 yX6_wakingCost wsX6_wakingCost) := goodIn_app (goodIn_of _ (by decide +kernel)) ggX7_wakeIfCalledFor_X6_wakingCost
set_option maxRecDepth 20000 in
theorem ggX7_wakeIfCalledFor_X4_spend : GoodIn wsX7_wakeIfCalledFor wsX4_spend := goodIn_r _ [50, 51, 52, 84, 85, 86, 87, 88, 89] (by decide +kernel) (by decide +kernel)
set_option maxRecDepth 20000 in
theorem gX7_wakeIfCalledFor_X4_spend : GoodIn wsX7_wakeIfCalledFor (wsV RX7 262 RX4 yX4_spend wsX4_spend) := goodIn_app (goodIn_of _ (by decide +kernel)) ggX7_wakeIfCalledFor_X4_spend
set_option maxRecDepth 20000 in
theorem ggX7_wakeIfCalledFor_X6_latencyOf : GoodIn wsX7_wakeIfCalledFor wsX6_latencyOf := goodIn_r _ [44, 45, 39, 9, 40, 94, 95, 96] (by decide +kernel) (by decide +kernel)
set_option maxRecDepth 20000 in
theorem gX7_wakeIfCalledFor_X6_latencyOf : GoodIn wsX7_wakeIfCalledFor (wsV RX7 286 RX6 yX6_latencyOf wsX6_latencyOf) := goodIn_app (goodIn_of _ (by decide +kernel)) ggX7_wakeIfCalledFor_X6_latencyOf
set_option maxRecDepth 20000 in
theorem ggX7_wakeIfCalledFor_X7_endIdleTime : GoodIn wsX7_wakeIfCalledFor wsX7_endIdleTime := goodIn_r _ [57, 58, 2, 59, 5, 60, 61, 62, 63, 64, 65, 66, 67, 68, 69, 70, 71, 72, 73, 74, 75, 76, 77, 78, 79, 80, 81, 82, 83, 97, 98] (by decide +kernel) (by decide +kernel)
set_option maxRecDepth 20000 in
theorem gX7_wakeIfCalledFor_X7_endIdleTime : GoodIn wsX7_wakeIfCalledFor (wsV RX7 289 RX7 yX7_endIdleTime wsX7_endIdleTime) := goodIn_app (goodIn_of _ (by decide +kernel)) ggX7_wakeIfCalledFor_X7_endIdleTime
set_option maxRecDepth 20000 in
theorem ggX7_wakeForCall_X6_wakingCost : GoodIn wsX7_wakeForCall wsX6_wakingCost := goodIn_r _ [8, 9, 10, 11, 7, 12, 13, 14, 15, 16, 17, 18, 19, 20, 21, 60, 61, 62] (by decide +kernel) (by decide +kernel)
set_option maxRecDepth 20000 in
theorem gX7_wakeForCall_X6_wakingCost : GoodIn wsX7_wakeForCall (wsV RX7 283 RX6 yX6_wakingCost wsX6_wakingCost) := goodIn_app (goodIn_of _ (by decide +kernel)) ggX7_wakeForCall_X6_wakingCost
set_option maxRecDepth 20000 in
theorem ggX7_wakeForCall_X4_spend : GoodIn wsX7_wakeForCall wsX4_spend := goodIn_r _ [26, 27, 28, 63, 64, 65, 66, 67, 68] (by decide +kernel) (by decide +kernel)
set_option maxRecDepth 20000 in
theorem gX7_wakeForCall_X4_spend : GoodIn wsX7_wakeForCall (wsV RX7 262 RX4 yX4_spend wsX4_spend) := goodIn_app (goodIn_of _ (by decide +kernel)) ggX7_wakeForCall_X4_spend
set_option maxRecDepth 20000 in
theorem ggX7_wakeForCall_X7_endIdleTime : GoodIn wsX7_wakeForCall wsX7_endIdleTime := goodIn_r _ [32, 33, 34, 35, 1, 36, 37, 38, 39, 40, 41, 42, 43, 44, 45, 46, 47, 48, 49, 50, 51, 52, 53, 54, 55, 56, 57, 58, 59, 69, 70] (by decide +kernel) (by decide +kernel)
set_option maxRecDepth 20000 in
theorem gX7_wakeForCall_X7_endIdleTime : GoodIn wsX7_wakeForCall (wsV RX7 289 RX7 yX7_endIdleTime wsX7_endIdleTime) := goodIn_app (goodIn_of _ (by decide +kernel)) ggX7_wakeForCall_X7_endIdleTime
set_option maxRecDepth 20000 in
theorem ggX7_endIdleTime_X2_remember : GoodIn wsX7_endIdleTime wsX2_remember := goodIn_r _ [9, 10, 11, 12, 13, 14, 15, 29, 30] (by decide +kernel) (by decide +kernel)
set_option maxRecDepth 20000 in
theorem gX7_endIdleTime_X2_remember : GoodIn wsX7_endIdleTime (wsV RX7 292 RX2 yX2_remember wsX2_remember) := goodIn_app (goodIn_of _ (by decide +kernel)) ggX7_endIdleTime_X2_remember
set_option maxRecDepth 20000 in
theorem ggX7_serveWhatIsDue_X3_takeDue : GoodIn wsX7_serveWhatIsDue wsX3_takeDue := goodIn_r _ [10, 11, 12, 13, 14, 50, 51, 52, 53] (by decide +kernel) (by decide +kernel)
set_option maxRecDepth 20000 in
theorem gX7_serveWhatIsDue_X3_takeDue : GoodIn wsX7_serveWhatIsDue (wsV RX7 295 RX3 yX3_takeDue wsX3_takeDue) := goodIn_app (goodIn_of _ (by decide +kernel)) ggX7_serveWhatIsDue_X3_takeDue
set_option maxRecDepth 20000 in
theorem ggX7_serveWhatIsDue_X6_powerOf : GoodIn wsX7_serveWhatIsDue wsX6_powerOf := goodIn_r _ [19, 20, 21, 22, 23, 54, 55, 56] (by decide +kernel) (by decide +kernel)
set_option maxRecDepth 20000 in
theorem gX7_serveWhatIsDue_X6_powerOf : GoodIn wsX7_serveWhatIsDue (wsV RX7 98 RX6 yX6_powerOf wsX6_powerOf) := goodIn_app (goodIn_of _ (by decide +kernel)) ggX7_serveWhatIsDue_X6_powerOf
set_option maxRecDepth 20000 in
theorem ggX7_serveWhatIsDue_X4_spend : GoodIn wsX7_serveWhatIsDue wsX4_spend := goodIn_r _ [28, 29, 30, 44, 45, 46, 47, 48, 49] (by decide +kernel) (by decide +kernel)
set_option maxRecDepth 20000 in
theorem gX7_serveWhatIsDue_X4_spend : GoodIn wsX7_serveWhatIsDue (wsV RX7 262 RX4 yX4_spend wsX4_spend) := goodIn_app (goodIn_of _ (by decide +kernel)) ggX7_serveWhatIsDue_X4_spend
set_option maxRecDepth 20000 in
theorem ggX7_chooseState_X7_ticksToWakeup : GoodIn wsX7_chooseState wsX7_ticksToWakeup := goodIn_r _ [12, 13, 14, 15, 16, 17, 11, 18, 19, 20, 21, 22, 23, 24, 25, 26, 27, 91, 92, 93, 94, 95, 96, 97, 98, 99, 100, 101, 102, 103, 106, 107, 108, 109] (by decide +kernel) (by decide +kernel)
set_option maxRecDepth 20000 in
theorem gX7_chooseState_X7_ticksToWakeup : GoodIn wsX7_chooseState (wsV RX7 277 RX7 yX7_ticksToWakeup wsX7_ticksToWakeup) := goodIn_app (goodIn_of _ (by decide +kernel)) ggX7_chooseState_X7_ticksToWakeup
set_option maxRecDepth 20000 in
theorem ggX7_chooseState_X7_depth : GoodIn wsX7_chooseState wsX7_depth := goodIn_r _ [31, 32, 33, 4, 5, 6, 7, 34, 35, 36, 37, 38, 39, 40, 41, 42, 43, 44, 45, 46, 47, 48, 49, 50, 51, 52, 91, 92, 93, 94, 95, 96, 97, 98, 99, 100, 101, 102, 103, 110, 111, 112, 113, 114, 115] (by decide +kernel) (by decide +kernel)
set_option maxRecDepth 20000 in
theorem gX7_chooseState_X7_depth : GoodIn wsX7_chooseState (wsV RX7 233 RX7 yX7_depth wsX7_depth) := goodIn_app (goodIn_of _ (by decide +kernel)) ggX7_chooseState_X7_depth
set_option maxRecDepth 20000 in
theorem ggX7_chooseState_X6_deepestThatWakes : GoodIn wsX7_chooseState wsX6_deepestThatWakes := goodIn_r _ [57, 58, 59, 60, 56, 61, 62, 63, 11, 64, 116, 117, 118] (by decide +kernel) (by decide +kernel)
set_option maxRecDepth 20000 in
theorem gX7_chooseState_X6_deepestThatWakes : GoodIn wsX7_chooseState (wsV RX7 298 RX6 yX6_deepestThatWakes wsX6_deepestThatWakes) := goodIn_app (goodIn_of _ (by decide +kernel)) ggX7_chooseState_X6_deepestThatWakes
set_option maxRecDepth 20000 in
theorem ggX7_chooseState_X2_mean : GoodIn wsX7_chooseState wsX2_mean := goodIn_r _ [69, 70, 71, 72, 104, 105] (by decide +kernel) (by decide +kernel)
set_option maxRecDepth 20000 in
theorem gX7_chooseState_X2_mean : GoodIn wsX7_chooseState (wsV RX7 302 RX2 yX2_mean wsX2_mean) := goodIn_app (goodIn_of _ (by decide +kernel)) ggX7_chooseState_X2_mean
set_option maxRecDepth 20000 in
theorem ggX7_chooseState_X6_deepestWorthwhile : GoodIn wsX7_chooseState wsX6_deepestWorthwhile := goodIn_r _ [76, 77, 78, 79, 56, 80, 81, 82, 83, 84, 85, 63, 11, 64, 58, 59, 60, 61, 62, 86, 87, 88, 89, 90, 116, 117, 118] (by decide +kernel) (by decide +kernel)
set_option maxRecDepth 20000 in
theorem gX7_chooseState_X6_deepestWorthwhile : GoodIn wsX7_chooseState (wsV RX7 305 RX6 yX6_deepestWorthwhile wsX6_deepestWorthwhile) := goodIn_app (goodIn_of _ (by decide +kernel)) ggX7_chooseState_X6_deepestWorthwhile
set_option maxRecDepth 20000 in
theorem ggX7_fallAsleep_X6_costOf : GoodIn wsX7_fallAsleep wsX6_costOf := goodIn_r _ [10, 11, 12, 13, 14, 41, 42, 43] (by decide +kernel) (by decide +kernel)
set_option maxRecDepth 20000 in
theorem gX7_fallAsleep_X6_costOf : GoodIn wsX7_fallAsleep (wsV RX7 308 RX6 yX6_costOf wsX6_costOf) := goodIn_app (goodIn_of _ (by decide +kernel)) ggX7_fallAsleep_X6_costOf
set_option maxRecDepth 20000 in
theorem ggX7_fallAsleep_X4_spend : GoodIn wsX7_fallAsleep wsX4_spend := goodIn_r _ [19, 20, 21, 35, 36, 37, 38, 39, 40] (by decide +kernel) (by decide +kernel)
set_option maxRecDepth 20000 in
theorem gX7_fallAsleep_X4_spend : GoodIn wsX7_fallAsleep (wsV RX7 262 RX4 yX4_spend wsX4_spend) := goodIn_app (goodIn_of _ (by decide +kernel)) ggX7_fallAsleep_X4_spend
set_option maxRecDepth 20000 in
theorem ggX7_powerOfTick_X7_ticksToWakeup : GoodIn wsX7_powerOfTick wsX7_ticksToWakeup := goodIn_r _ [7, 8, 9, 10, 11, 12, 6, 13, 14, 15, 16, 17, 18, 19, 20, 21, 22, 36, 37, 38, 39, 40, 41, 42, 43, 44, 45, 46, 47, 48, 49, 50, 51, 52] (by decide +kernel) (by decide +kernel)
set_option maxRecDepth 20000 in
theorem gX7_powerOfTick_X7_ticksToWakeup : GoodIn wsX7_powerOfTick (wsV RX7 277 RX7 yX7_ticksToWakeup wsX7_ticksToWakeup) := goodIn_app (goodIn_of _ (by decide +kernel)) ggX7_powerOfTick_X7_ticksToWakeup
set_option maxRecDepth 20000 in
theorem ggX7_powerOfTick_X6_latencyOf : GoodIn wsX7_powerOfTick wsX6_latencyOf := goodIn_r _ [27, 28, 29, 6, 30, 53, 54, 55] (by decide +kernel) (by decide +kernel)
set_option maxRecDepth 20000 in
theorem gX7_powerOfTick_X6_latencyOf : GoodIn wsX7_powerOfTick (wsV RX7 286 RX6 yX6_latencyOf wsX6_latencyOf) := goodIn_app (goodIn_of _ (by decide +kernel)) ggX7_powerOfTick_X6_latencyOf
set_option maxRecDepth 20000 in
theorem ggX7_powerOfTick_X6_powerOf : GoodIn wsX7_powerOfTick wsX6_powerOf := goodIn_r _ [34, 35, 29, 6, 30, 53, 54, 55] (by decide +kernel) (by decide +kernel)
set_option maxRecDepth 20000 in
theorem gX7_powerOfTick_X6_powerOf : GoodIn wsX7_powerOfTick (wsV RX7 98 RX6 yX6_powerOf wsX6_powerOf) := goodIn_app (goodIn_of _ (by decide +kernel)) ggX7_powerOfTick_X6_powerOf
set_option maxRecDepth 20000 in
theorem ggX7_ticksToWakeup_X7_nextWakeup : GoodIn wsX7_ticksToWakeup wsX7_nextWakeup := goodIn_r _ [7, 8, 1, 9, 10, 11, 12, 13, 14, 15, 16, 17, 18, 19, 20, 21, 22, 23, 24, 25, 26, 27, 28, 29, 30, 31, 32, 33] (by decide +kernel) (by decide +kernel)
set_option maxRecDepth 20000 in
theorem gX7_ticksToWakeup_X7_nextWakeup : GoodIn wsX7_ticksToWakeup (wsV RX7 311 RX7 yX7_nextWakeup wsX7_nextWakeup) := goodIn_app (goodIn_of _ (by decide +kernel)) ggX7_ticksToWakeup_X7_nextWakeup
set_option maxRecDepth 20000 in
theorem ggX8_stirs_X8_spends : GoodIn wsX8_stirs wsX8_spends := goodIn_r _ [8, 9, 10, 19, 20, 21, 22, 23, 24, 25, 26, 27, 28, 29, 30, 31, 32, 33, 34, 35, 36, 37, 38, 39, 40, 41, 42, 43, 44, 45, 46, 47, 48, 49, 50, 51, 52, 53, 54] (by decide +kernel) (by decide +kernel)
set_option maxRecDepth 20000 in
theorem gX8_stirs_X8_spends : GoodIn wsX8_stirs (wsV RX8 106 RX8 yX8_spends wsX8_spends) := goodIn_app (goodIn_of _ (by decide +kernel)) ggX8_stirs_X8_spends
set_option maxRecDepth 20000 in
theorem ggX8_stirs_X8_wakes : GoodIn wsX8_stirs wsX8_wakes := goodIn_r _ [14, 15, 16, 17, 18, 1, 19, 20, 21, 22, 23, 24, 25, 26, 27, 28, 29, 30, 31, 32, 33, 34, 35, 36, 37, 38, 39, 40, 41, 42, 43, 44, 45, 46, 47, 48, 49, 50, 51, 52, 53, 54] (by decide +kernel) (by decide +kernel)
set_option maxRecDepth 20000 in
theorem gX8_stirs_X8_wakes : GoodIn wsX8_stirs (wsV RX8 110 RX8 yX8_wakes wsX8_wakes) := goodIn_app (goodIn_of _ (by decide +kernel)) ggX8_stirs_X8_wakes
set_option maxRecDepth 20000 in
theorem ggX8_setState_X8_in : GoodIn wsX8_setState wsX8_in := goodIn_r _ [7] (by decide +kernel) (by decide +kernel)
set_option maxRecDepth 20000 in
theorem gX8_setState_X8_in : GoodIn wsX8_setState (va_wsS RX8 113 yX8_in wsX8_in) := goodIn_app (goodIn_of _ (by decide +kernel)) ggX8_setState_X8_in
set_option maxRecDepth 20000 in
theorem ggX8_setState_X8_asks : GoodIn wsX8_setState wsX8_asks := goodIn_r _ [11, 12, 32, 33, 34, 35, 36, 37, 38, 39, 40, 41, 42, 43, 44, 45, 46, 47, 48, 49, 50, 51, 52, 53, 54, 55, 56, 57, 58, 59, 60, 61, 62, 63, 64, 65, 66, 67] (by decide +kernel) (by decide +kernel)
set_option maxRecDepth 20000 in
theorem gX8_setState_X8_asks : GoodIn wsX8_setState (wsV RX8 117 RX8 yX8_asks wsX8_asks) := goodIn_app (goodIn_of _ (by decide +kernel)) ggX8_setState_X8_asks
set_option maxRecDepth 20000 in
theorem ggX8_setState_X8_stirs : GoodIn wsX8_setState wsX8_stirs := goodIn_r _ [16, 17, 1, 3, 18, 19, 20, 6, 21, 22, 23, 24, 25, 26, 27, 28, 29, 30, 31, 32, 33, 34, 35, 36, 37, 38, 39, 40, 41, 42, 43, 44, 45, 46, 47, 48, 49, 50, 51, 52, 53, 54, 55, 56, 57, 58, 59, 60, 61, 62, 63, 64, 65, 66, 67] (by decide +kernel) (by decide +kernel)
set_option maxRecDepth 20000 in
theorem gX8_setState_X8_stirs : GoodIn wsX8_setState (wsV RX8 121 RX8 yX8_stirs wsX8_stirs) := goodIn_app (goodIn_of _ (by decide +kernel)) ggX8_setState_X8_stirs
set_option maxRecDepth 20000 in
theorem ggX8_setAwake_X8_in : GoodIn wsX8_setAwake wsX8_in := goodIn_r _ [5] (by decide +kernel) (by decide +kernel)
set_option maxRecDepth 20000 in
theorem gX8_setAwake_X8_in : GoodIn wsX8_setAwake (va_wsS RX8 113 yX8_in wsX8_in) := goodIn_app (goodIn_of _ (by decide +kernel)) ggX8_setAwake_X8_in
set_option maxRecDepth 20000 in
theorem ggX8_setAwake_X8_asks : GoodIn wsX8_setAwake wsX8_asks := goodIn_r _ [9, 10, 31, 32, 33, 34, 35, 36, 37, 38, 39, 40, 41, 42, 43, 44, 45, 46, 47, 48, 49, 50, 51, 52, 53, 54, 55, 56, 57, 58, 59, 60, 61, 62, 63, 64, 65, 66] (by decide +kernel) (by decide +kernel)
set_option maxRecDepth 20000 in
theorem gX8_setAwake_X8_asks : GoodIn wsX8_setAwake (wsV RX8 117 RX8 yX8_asks wsX8_asks) := goodIn_app (goodIn_of _ (by decide +kernel)) ggX8_setAwake_X8_asks
set_option maxRecDepth 20000 in
theorem ggX8_setAwake_X8_stirs : GoodIn wsX8_setAwake wsX8_stirs := goodIn_r _ [14, 15, 1, 16, 17, 18, 19, 4, 20, 21, 22, 23, 24, 25, 26, 27, 28, 29, 30, 31, 32, 33, 34, 35, 36, 37, 38, 39, 40, 41, 42, 43, 44, 45, 46, 47, 48, 49, 50, 51, 52, 53, 54, 55, 56, 57, 58, 59, 60, 61, 62, 63, 64, 65, 66] (by decide +kernel) (by decide +kernel)
set_option maxRecDepth 20000 in
theorem gX8_setAwake_X8_stirs : GoodIn wsX8_setAwake (wsV RX8 121 RX8 yX8_stirs wsX8_stirs) := goodIn_app (goodIn_of _ (by decide +kernel)) ggX8_setAwake_X8_stirs
set_option maxRecDepth 20000 in
theorem ggX8_vote_X8_in : GoodIn wsX8_vote wsX8_in := goodIn_r _ [5] (by decide +kernel) (by decide +kernel)
set_option maxRecDepth 20000 in
theorem gX8_vote_X8_in : GoodIn wsX8_vote (va_wsS RX8 113 yX8_in wsX8_in) := goodIn_app (goodIn_of _ (by decide +kernel)) ggX8_vote_X8_in
set_option maxRecDepth 20000 in
theorem ggX8_vote_X8_asks : GoodIn wsX8_vote wsX8_asks := goodIn_r _ [9, 10, 32, 33, 34, 35, 36, 37, 38, 39, 40, 41, 42, 43, 44, 45, 46, 47, 48, 49, 50, 51, 52, 53, 54, 55, 56, 57, 58, 59, 60, 61, 62, 63, 64, 65, 66, 67] (by decide +kernel) (by decide +kernel)
set_option maxRecDepth 20000 in
theorem gX8_vote_X8_asks : GoodIn wsX8_vote (wsV RX8 117 RX8 yX8_asks wsX8_asks) := goodIn_app (goodIn_of _ (by decide +kernel)) ggX8_vote_X8_asks
set_option maxRecDepth 20000 in
theorem ggX8_vote_X8_stirs : GoodIn wsX8_vote wsX8_stirs := goodIn_r _ [14, 15, 16, 17, 18, 19, 20, 4, 21, 22, 23, 24, 25, 26, 27, 28, 29, 30, 31, 32, 33, 34, 35, 36, 37, 38, 39, 40, 41, 42, 43, 44, 45, 46, 47, 48, 49, 50, 51, 52, 53, 54, 55, 56, 57, 58, 59, 60, 61, 62, 63, 64, 65, 66, 67] (by decide +kernel) (by decide +kernel)
set_option maxRecDepth 20000 in
theorem gX8_vote_X8_stirs : GoodIn wsX8_vote (wsV RX8 121 RX8 yX8_stirs wsX8_stirs) := goodIn_app (goodIn_of _ (by decide +kernel)) ggX8_vote_X8_stirs
set_option maxRecDepth 20000 in
theorem ggX8_addClock_X8_isClock : GoodIn wsX8_addClock wsX8_isClock := goodIn_r _ [9, 1, 43, 44, 45, 46, 47, 48, 49, 50, 51, 52, 53, 54, 55, 56, 57, 58, 59, 60, 61, 62, 63, 64, 65, 66, 67, 68, 69, 70, 71, 72, 73, 74, 75, 76, 77, 78] (by decide +kernel) (by decide +kernel)
set_option maxRecDepth 20000 in
theorem gX8_addClock_X8_isClock : GoodIn wsX8_addClock (wsV RX8 124 RX8 yX8_isClock wsX8_isClock) := goodIn_app (goodIn_of _ (by decide +kernel)) ggX8_addClock_X8_isClock
set_option maxRecDepth 20000 in
theorem ggX8_addClock_X8_asks : GoodIn wsX8_addClock wsX8_asks := goodIn_r _ [13, 14, 43, 44, 45, 46, 47, 48, 49, 50, 51, 52, 53, 54, 55, 56, 57, 58, 59, 60, 61, 62, 63, 64, 65, 66, 67, 68, 69, 70, 71, 72, 73, 74, 75, 76, 77, 78] (by decide +kernel) (by decide +kernel)
set_option maxRecDepth 20000 in
theorem gX8_addClock_X8_asks : GoodIn wsX8_addClock (wsV RX8 117 RX8 yX8_asks wsX8_asks) := goodIn_app (goodIn_of _ (by decide +kernel)) ggX8_addClock_X8_asks
set_option maxRecDepth 20000 in
theorem ggX8_addClock_X8_in : GoodIn wsX8_addClock wsX8_in := goodIn_r _ [17] (by decide +kernel) (by decide +kernel)
set_option maxRecDepth 20000 in
theorem gX8_addClock_X8_in : GoodIn wsX8_addClock (va_wsS RX8 113 yX8_in wsX8_in) := goodIn_app (goodIn_of _ (by decide +kernel)) ggX8_addClock_X8_in
set_option maxRecDepth 20000 in
theorem ggX8_addClock_X8_fails : GoodIn wsX8_addClock wsX8_fails := goodIn_r _ [21, 14, 43, 44, 45, 46, 47, 48, 49, 50, 51, 52, 53, 54, 55, 56, 57, 58, 59, 60, 61, 62, 63, 64, 65, 66, 67, 68, 69, 70, 71, 72, 73, 74, 75, 76, 77, 78] (by decide +kernel) (by decide +kernel)
set_option maxRecDepth 20000 in
theorem gX8_addClock_X8_fails : GoodIn wsX8_addClock (wsV RX8 128 RX8 yX8_fails wsX8_fails) := goodIn_app (goodIn_of _ (by decide +kernel)) ggX8_addClock_X8_fails
set_option maxRecDepth 20000 in
theorem ggX8_addClock_X8_stirs : GoodIn wsX8_addClock wsX8_stirs := goodIn_r _ [25, 26, 27, 28, 29, 30, 31, 8, 32, 33, 34, 35, 36, 37, 38, 39, 40, 41, 42, 43, 44, 45, 46, 47, 48, 49, 50, 51, 52, 53, 54, 55, 56, 57, 58, 59, 60, 61, 62, 63, 64, 65, 66, 67, 68, 69, 70, 71, 72, 73, 74, 75, 76, 77, 78] (by decide +kernel) (by decide +kernel)
set_option maxRecDepth 20000 in
theorem gX8_addClock_X8_stirs : GoodIn wsX8_addClock (wsV RX8 121 RX8 yX8_stirs wsX8_stirs) := goodIn_app (goodIn_of _ (by decide +kernel)) ggX8_addClock_X8_stirs
set_option maxRecDepth 20000 in
theorem ggX8_use_X8_isClock : GoodIn wsX8_use wsX8_isClock := goodIn_r _ [6, 7, 38, 39, 40, 41, 42, 43, 44, 45, 46, 47, 48, 49, 50, 51, 52, 53, 54, 55, 56, 57, 58, 59, 60, 61, 62, 63, 64, 65, 66, 67, 68, 69, 70, 71, 72, 73] (by decide +kernel) (by decide +kernel)
set_option maxRecDepth 20000 in
theorem gX8_use_X8_isClock : GoodIn wsX8_use (wsV RX8 124 RX8 yX8_isClock wsX8_isClock) := goodIn_app (goodIn_of _ (by decide +kernel)) ggX8_use_X8_isClock
set_option maxRecDepth 20000 in
theorem ggX8_use_X8_asks : GoodIn wsX8_use wsX8_asks := goodIn_r _ [11, 12, 38, 39, 40, 41, 42, 43, 44, 45, 46, 47, 48, 49, 50, 51, 52, 53, 54, 55, 56, 57, 58, 59, 60, 61, 62, 63, 64, 65, 66, 67, 68, 69, 70, 71, 72, 73] (by decide +kernel) (by decide +kernel)
set_option maxRecDepth 20000 in
theorem gX8_use_X8_asks : GoodIn wsX8_use (wsV RX8 117 RX8 yX8_asks wsX8_asks) := goodIn_app (goodIn_of _ (by decide +kernel)) ggX8_use_X8_asks
set_option maxRecDepth 20000 in
theorem ggX8_use_X8_fails : GoodIn wsX8_use wsX8_fails := goodIn_r _ [16, 12, 38, 39, 40, 41, 42, 43, 44, 45, 46, 47, 48, 49, 50, 51, 52, 53, 54, 55, 56, 57, 58, 59, 60, 61, 62, 63, 64, 65, 66, 67, 68, 69, 70, 71, 72, 73] (by decide +kernel) (by decide +kernel)
set_option maxRecDepth 20000 in
theorem gX8_use_X8_fails : GoodIn wsX8_use (wsV RX8 128 RX8 yX8_fails wsX8_fails) := goodIn_app (goodIn_of _ (by decide +kernel)) ggX8_use_X8_fails
set_option maxRecDepth 20000 in
theorem ggX8_use_X8_stirs : GoodIn wsX8_use wsX8_stirs := goodIn_r _ [20, 21, 22, 23, 24, 25, 26, 5, 27, 28, 29, 30, 31, 32, 33, 34, 35, 36, 37, 38, 39, 40, 41, 42, 43, 44, 45, 46, 47, 48, 49, 50, 51, 52, 53, 54, 55, 56, 57, 58, 59, 60, 61, 62, 63, 64, 65, 66, 67, 68, 69, 70, 71, 72, 73] (by decide +kernel) (by decide +kernel)
set_option maxRecDepth 20000 in
theorem gX8_use_X8_stirs : GoodIn wsX8_use (wsV RX8 121 RX8 yX8_stirs wsX8_stirs) := goodIn_app (goodIn_of _ (by decide +kernel)) ggX8_use_X8_stirs
set_option maxRecDepth 20000 in
theorem ggX8_release_X8_isClock : GoodIn wsX8_release wsX8_isClock := goodIn_r _ [6, 7, 38, 39, 40, 41, 42, 43, 44, 45, 46, 47, 48, 49, 50, 51, 52, 53, 54, 55, 56, 57, 58, 59, 60, 61, 62, 63, 64, 65, 66, 67, 68, 69, 70, 71, 72, 73] (by decide +kernel) (by decide +kernel)
set_option maxRecDepth 20000 in
theorem gX8_release_X8_isClock : GoodIn wsX8_release (wsV RX8 124 RX8 yX8_isClock wsX8_isClock) := goodIn_app (goodIn_of _ (by decide +kernel)) ggX8_release_X8_isClock
set_option maxRecDepth 20000 in
theorem ggX8_release_X8_asks : GoodIn wsX8_release wsX8_asks := goodIn_r _ [11, 12, 38, 39, 40, 41, 42, 43, 44, 45, 46, 47, 48, 49, 50, 51, 52, 53, 54, 55, 56, 57, 58, 59, 60, 61, 62, 63, 64, 65, 66, 67, 68, 69, 70, 71, 72, 73] (by decide +kernel) (by decide +kernel)
set_option maxRecDepth 20000 in
theorem gX8_release_X8_asks : GoodIn wsX8_release (wsV RX8 117 RX8 yX8_asks wsX8_asks) := goodIn_app (goodIn_of _ (by decide +kernel)) ggX8_release_X8_asks
set_option maxRecDepth 20000 in
theorem ggX8_release_X8_fails : GoodIn wsX8_release wsX8_fails := goodIn_r _ [16, 12, 38, 39, 40, 41, 42, 43, 44, 45, 46, 47, 48, 49, 50, 51, 52, 53, 54, 55, 56, 57, 58, 59, 60, 61, 62, 63, 64, 65, 66, 67, 68, 69, 70, 71, 72, 73] (by decide +kernel) (by decide +kernel)
set_option maxRecDepth 20000 in
theorem gX8_release_X8_fails : GoodIn wsX8_release (wsV RX8 128 RX8 yX8_fails wsX8_fails) := goodIn_app (goodIn_of _ (by decide +kernel)) ggX8_release_X8_fails
set_option maxRecDepth 20000 in
theorem ggX8_release_X8_stirs : GoodIn wsX8_release wsX8_stirs := goodIn_r _ [20, 21, 22, 23, 24, 25, 26, 5, 27, 28, 29, 30, 31, 32, 33, 34, 35, 36, 37, 38, 39, 40, 41, 42, 43, 44, 45, 46, 47, 48, 49, 50, 51, 52, 53, 54, 55, 56, 57, 58, 59, 60, 61, 62, 63, 64, 65, 66, 67, 68, 69, 70, 71, 72, 73] (by decide +kernel) (by decide +kernel)
set_option maxRecDepth 20000 in
theorem gX8_release_X8_stirs : GoodIn wsX8_release (wsV RX8 121 RX8 yX8_stirs wsX8_stirs) := goodIn_app (goodIn_of _ (by decide +kernel)) ggX8_release_X8_stirs
set_option maxRecDepth 20000 in
theorem ggX8_runs_X8_isClock : GoodIn wsX8_runs wsX8_isClock := goodIn_r _ [6, 7, 19, 20, 21, 22, 23, 24, 25, 26, 27, 28, 29, 30, 31, 32, 33, 34, 35, 36, 37, 38, 39, 40, 41, 42, 43, 44, 45, 46, 47, 48, 49, 50, 51, 52, 53, 54] (by decide +kernel) (by decide +kernel)
set_option maxRecDepth 20000 in
theorem gX8_runs_X8_isClock : GoodIn wsX8_runs (wsV RX8 124 RX8 yX8_isClock wsX8_isClock) := goodIn_app (goodIn_of _ (by decide +kernel)) ggX8_runs_X8_isClock
set_option maxRecDepth 20000 in
theorem ggX8_runs_X8_asks : GoodIn wsX8_runs wsX8_asks := goodIn_r _ [11, 12, 19, 20, 21, 22, 23, 24, 25, 26, 27, 28, 29, 30, 31, 32, 33, 34, 35, 36, 37, 38, 39, 40, 41, 42, 43, 44, 45, 46, 47, 48, 49, 50, 51, 52, 53, 54] (by decide +kernel) (by decide +kernel)
set_option maxRecDepth 20000 in
theorem gX8_runs_X8_asks : GoodIn wsX8_runs (wsV RX8 117 RX8 yX8_asks wsX8_asks) := goodIn_app (goodIn_of _ (by decide +kernel)) ggX8_runs_X8_asks
set_option maxRecDepth 20000 in
theorem ggX8_runs_X8_findsRunning : GoodIn wsX8_runs wsX8_findsRunning := goodIn_r _ [16, 1, 17, 7, 18, 19, 20, 21, 22, 23, 24, 25, 26, 27, 28, 29, 30, 31, 32, 33, 34, 35, 36, 37, 38, 39, 40, 41, 42, 43, 44, 45, 46, 47, 48, 49, 50, 51, 52, 53, 54] (by decide +kernel) (by decide +kernel)
set_option maxRecDepth 20000 in
theorem gX8_runs_X8_findsRunning : GoodIn wsX8_runs (wsV RX8 132 RX8 yX8_findsRunning wsX8_findsRunning) := goodIn_app (goodIn_of _ (by decide +kernel)) ggX8_runs_X8_findsRunning
set_option maxRecDepth 20000 in
theorem ggX8_frequency_X8_isClock : GoodIn wsX8_frequency wsX8_isClock := goodIn_r _ [7, 8, 14, 15, 16, 17, 18, 19, 20, 21, 22, 23, 24, 25, 26, 27, 28, 29, 30, 31, 32, 33, 34, 35, 36, 37, 38, 39, 40, 41, 42, 43, 44, 45, 46, 47, 48, 49] (by decide +kernel) (by decide +kernel)
set_option maxRecDepth 20000 in
theorem gX8_frequency_X8_isClock : GoodIn wsX8_frequency (wsV RX8 124 RX8 yX8_isClock wsX8_isClock) := goodIn_app (goodIn_of _ (by decide +kernel)) ggX8_frequency_X8_isClock
set_option maxRecDepth 20000 in
theorem ggX8_frequency_X8_asks : GoodIn wsX8_frequency wsX8_asks := goodIn_r _ [12, 13, 14, 15, 16, 17, 18, 19, 20, 21, 22, 23, 24, 25, 26, 27, 28, 29, 30, 31, 32, 33, 34, 35, 36, 37, 38, 39, 40, 41, 42, 43, 44, 45, 46, 47, 48, 49] (by decide +kernel) (by decide +kernel)
set_option maxRecDepth 20000 in
theorem gX8_frequency_X8_asks : GoodIn wsX8_frequency (wsV RX8 117 RX8 yX8_asks wsX8_asks) := goodIn_app (goodIn_of _ (by decide +kernel)) ggX8_frequency_X8_asks
set_option maxRecDepth 20000 in
theorem ggX8_deepestNow_X8_findsRunning : GoodIn wsX8_deepestNow wsX8_findsRunning := goodIn_r _ [9, 3, 10, 2, 11, 12, 13, 14, 15, 16, 17, 18, 19, 20, 21, 22, 23, 24, 25, 26, 27, 28, 29, 30, 31, 32, 33, 34, 35, 36, 37, 38, 39, 40, 41, 42, 43, 44, 45, 46, 47] (by decide +kernel) (by decide +kernel)
set_option maxRecDepth 20000 in
theorem gX8_deepestNow_X8_findsRunning : GoodIn wsX8_deepestNow (wsV RX8 132 RX8 yX8_findsRunning wsX8_findsRunning) := goodIn_app (goodIn_of _ (by decide +kernel)) ggX8_deepestNow_X8_findsRunning
set_option maxRecDepth 20000 in
theorem ggX8_depth_X8_deepestNow : GoodIn wsX8_depth wsX8_deepestNow := goodIn_r _ [6, 7, 8, 9, 10, 11, 12, 13, 5, 14, 15, 16, 17, 18, 19, 20, 21, 22, 23, 24, 25, 26, 27, 28, 29, 30, 31, 32, 33, 34, 35, 36, 37, 38, 39, 40, 41, 42, 43, 44, 45, 46, 47, 48, 49, 50, 51, 52] (by decide +kernel) (by decide +kernel)
set_option maxRecDepth 20000 in
theorem gX8_depth_X8_deepestNow : GoodIn wsX8_depth (wsV RX8 135 RX8 yX8_deepestNow wsX8_deepestNow) := goodIn_app (goodIn_of _ (by decide +kernel)) ggX8_depth_X8_deepestNow
set_option maxRecDepth 20000 in
theorem ggX8_evenAt_X8_idleCost : GoodIn wsX8_evenAt wsX8_idleCost := goodIn_r _ [6, 7, 8, 1, 9, 10, 11, 12, 13, 14, 15, 16, 17, 18, 19, 20, 21, 22, 23, 24, 25, 26, 27, 28, 29, 30, 31, 32, 33, 34, 35, 36, 37, 38, 39, 40, 41, 42, 43, 44] (by decide +kernel) (by decide +kernel)
set_option maxRecDepth 20000 in
theorem gX8_evenAt_X8_idleCost : GoodIn wsX8_evenAt (wsV RX8 139 RX8 yX8_idleCost wsX8_idleCost) := goodIn_app (goodIn_of _ (by decide +kernel)) ggX8_evenAt_X8_idleCost
set_option maxRecDepth 20000 in
theorem ggX8_breakEven_X8_in : GoodIn wsX8_breakEven wsX8_in := goodIn_r _ [4] (by decide +kernel) (by decide +kernel)
set_option maxRecDepth 20000 in
theorem gX8_breakEven_X8_in : GoodIn wsX8_breakEven (va_wsS RX8 113 yX8_in wsX8_in) := goodIn_app (goodIn_of _ (by decide +kernel)) ggX8_breakEven_X8_in
set_option maxRecDepth 20000 in
theorem ggX8_breakEven_X8_asks : GoodIn wsX8_breakEven wsX8_asks := goodIn_r _ [8, 9, 21, 22, 23, 24, 25, 26, 27, 28, 29, 30, 31, 32, 33, 34, 35, 36, 37, 38, 39, 40, 41, 42, 43, 44, 45, 46, 47, 48, 49, 50, 51, 52, 53, 54, 55, 56] (by decide +kernel) (by decide +kernel)
set_option maxRecDepth 20000 in
theorem gX8_breakEven_X8_asks : GoodIn wsX8_breakEven (wsV RX8 117 RX8 yX8_asks wsX8_asks) := goodIn_app (goodIn_of _ (by decide +kernel)) ggX8_breakEven_X8_asks
set_option maxRecDepth 20000 in
theorem ggX8_breakEven_X8_evenAt : GoodIn wsX8_breakEven wsX8_evenAt := goodIn_r _ [13, 14, 15, 16, 17, 3, 18, 19, 20, 21, 22, 23, 24, 25, 26, 27, 28, 29, 30, 31, 32, 33, 34, 35, 36, 37, 38, 39, 40, 41, 42, 43, 44, 45, 46, 47, 48, 49, 50, 51, 52, 53, 54, 55, 56] (by decide +kernel) (by decide +kernel)
set_option maxRecDepth 20000 in
theorem gX8_breakEven_X8_evenAt : GoodIn wsX8_breakEven (wsV RX8 143 RX8 yX8_evenAt wsX8_evenAt) := goodIn_app (goodIn_of _ (by decide +kernel)) ggX8_breakEven_X8_evenAt
set_option maxRecDepth 20000 in
theorem ggX8_schedule_X8_in : GoodIn wsX8_schedule wsX8_in := goodIn_r _ [9] (by decide +kernel) (by decide +kernel)
set_option maxRecDepth 20000 in
theorem gX8_schedule_X8_in : GoodIn wsX8_schedule (va_wsS RX8 113 yX8_in wsX8_in) := goodIn_app (goodIn_of _ (by decide +kernel)) ggX8_schedule_X8_in
set_option maxRecDepth 20000 in
theorem ggX8_schedule_X8_asks : GoodIn wsX8_schedule wsX8_asks := goodIn_r _ [13, 14, 39, 40, 41, 42, 43, 44, 45, 46, 47, 48, 49, 50, 51, 52, 53, 54, 55, 56, 57, 58, 59, 60, 61, 62, 63, 64, 65, 66, 67, 68, 69, 70, 71, 72, 73, 74] (by decide +kernel) (by decide +kernel)
set_option maxRecDepth 20000 in
theorem gX8_schedule_X8_asks : GoodIn wsX8_schedule (wsV RX8 117 RX8 yX8_asks wsX8_asks) := goodIn_app (goodIn_of _ (by decide +kernel)) ggX8_schedule_X8_asks
set_option maxRecDepth 20000 in
theorem ggX8_schedule_X8_fails : GoodIn wsX8_schedule wsX8_fails := goodIn_r _ [18, 14, 39, 40, 41, 42, 43, 44, 45, 46, 47, 48, 49, 50, 51, 52, 53, 54, 55, 56, 57, 58, 59, 60, 61, 62, 63, 64, 65, 66, 67, 68, 69, 70, 71, 72, 73, 74] (by decide +kernel) (by decide +kernel)
set_option maxRecDepth 20000 in
theorem gX8_schedule_X8_fails : GoodIn wsX8_schedule (wsV RX8 128 RX8 yX8_fails wsX8_fails) := goodIn_app (goodIn_of _ (by decide +kernel)) ggX8_schedule_X8_fails
set_option maxRecDepth 20000 in
theorem ggX8_schedule_X8_stirs : GoodIn wsX8_schedule wsX8_stirs := goodIn_r _ [22, 23, 24, 25, 26, 27, 28, 8, 29, 30, 31, 32, 33, 34, 35, 36, 37, 1, 38, 39, 40, 41, 42, 43, 44, 45, 46, 47, 48, 49, 50, 51, 52, 53, 54, 55, 56, 57, 58, 59, 60, 61, 62, 63, 64, 65, 66, 67, 68, 69, 70, 71, 72, 73, 74] (by decide +kernel) (by decide +kernel)
set_option maxRecDepth 20000 in
theorem gX8_schedule_X8_stirs : GoodIn wsX8_schedule (wsV RX8 121 RX8 yX8_stirs wsX8_stirs) := goodIn_app (goodIn_of _ (by decide +kernel)) ggX8_schedule_X8_stirs
set_option maxRecDepth 20000 in
theorem ggX8_addEvent_X8_in : GoodIn wsX8_addEvent wsX8_in := goodIn_r _ [8] (by decide +kernel) (by decide +kernel)
set_option maxRecDepth 20000 in
theorem gX8_addEvent_X8_in : GoodIn wsX8_addEvent (va_wsS RX8 113 yX8_in wsX8_in) := goodIn_app (goodIn_of _ (by decide +kernel)) ggX8_addEvent_X8_in
set_option maxRecDepth 20000 in
theorem ggX8_addEvent_X8_asks : GoodIn wsX8_addEvent wsX8_asks := goodIn_r _ [12, 13, 18, 19, 20, 21, 22, 23, 24, 25, 26, 27, 28, 29, 30, 31, 32, 33, 34, 35, 36, 37, 38, 39, 40, 41, 42, 43, 44, 45, 46, 47, 48, 49, 50, 51, 52, 53] (by decide +kernel) (by decide +kernel)
set_option maxRecDepth 20000 in
theorem gX8_addEvent_X8_asks : GoodIn wsX8_addEvent (wsV RX8 117 RX8 yX8_asks wsX8_asks) := goodIn_app (goodIn_of _ (by decide +kernel)) ggX8_addEvent_X8_asks
set_option maxRecDepth 20000 in
theorem ggX8_addEvent_X8_fails : GoodIn wsX8_addEvent wsX8_fails := goodIn_r _ [17, 13, 18, 19, 20, 21, 22, 23, 24, 25, 26, 27, 28, 29, 30, 31, 32, 33, 34, 35, 36, 37, 38, 39, 40, 41, 42, 43, 44, 45, 46, 47, 48, 49, 50, 51, 52, 53] (by decide +kernel) (by decide +kernel)
set_option maxRecDepth 20000 in
theorem gX8_addEvent_X8_fails : GoodIn wsX8_addEvent (wsV RX8 128 RX8 yX8_fails wsX8_fails) := goodIn_app (goodIn_of _ (by decide +kernel)) ggX8_addEvent_X8_fails
set_option maxRecDepth 20000 in
theorem ggX8_setRule_X8_in : GoodIn wsX8_setRule wsX8_in := goodIn_r _ [5] (by decide +kernel) (by decide +kernel)
set_option maxRecDepth 20000 in
theorem gX8_setRule_X8_in : GoodIn wsX8_setRule (va_wsS RX8 113 yX8_in wsX8_in) := goodIn_app (goodIn_of _ (by decide +kernel)) ggX8_setRule_X8_in
set_option maxRecDepth 20000 in
theorem ggX8_setRule_X8_asks : GoodIn wsX8_setRule wsX8_asks := goodIn_r _ [9, 10, 32, 33, 34, 35, 36, 37, 38, 39, 40, 41, 42, 43, 44, 45, 46, 47, 48, 49, 50, 51, 52, 53, 54, 55, 56, 57, 58, 59, 60, 61, 62, 63, 64, 65, 66, 67] (by decide +kernel) (by decide +kernel)
set_option maxRecDepth 20000 in
theorem gX8_setRule_X8_asks : GoodIn wsX8_setRule (wsV RX8 117 RX8 yX8_asks wsX8_asks) := goodIn_app (goodIn_of _ (by decide +kernel)) ggX8_setRule_X8_asks
set_option maxRecDepth 20000 in
theorem ggX8_setRule_X8_stirs : GoodIn wsX8_setRule wsX8_stirs := goodIn_r _ [14, 15, 16, 17, 18, 19, 20, 4, 21, 22, 23, 24, 25, 26, 27, 28, 29, 30, 31, 32, 33, 34, 35, 36, 37, 38, 39, 40, 41, 42, 43, 44, 45, 46, 47, 48, 49, 50, 51, 52, 53, 54, 55, 56, 57, 58, 59, 60, 61, 62, 63, 64, 65, 66, 67] (by decide +kernel) (by decide +kernel)
set_option maxRecDepth 20000 in
theorem gX8_setRule_X8_stirs : GoodIn wsX8_setRule (wsV RX8 121 RX8 yX8_stirs wsX8_stirs) := goodIn_app (goodIn_of _ (by decide +kernel)) ggX8_setRule_X8_stirs
set_option maxRecDepth 20000 in
theorem ggX8_nextWakeup_X8_next : GoodIn wsX8_nextWakeup wsX8_next := goodIn_r _ [7, 8, 2, 9, 10, 11, 12, 13, 14, 15, 16, 17, 18, 19, 20, 21, 22, 23, 24, 25, 26, 27, 28, 29, 30, 31, 32, 33, 34, 35, 36, 37, 38, 39, 40, 41, 42, 43, 44, 45] (by decide +kernel) (by decide +kernel)
set_option maxRecDepth 20000 in
theorem gX8_nextWakeup_X8_next : GoodIn wsX8_nextWakeup (wsV RX8 153 RX8 yX8_next wsX8_next) := goodIn_app (goodIn_of _ (by decide +kernel)) ggX8_nextWakeup_X8_next
set_option maxRecDepth 20000 in
theorem ggX8_mayWake_X8_next : GoodIn wsX8_mayWake wsX8_next := goodIn_r _ [10, 11, 12, 13, 33, 34, 35, 36, 37, 38, 39, 40, 41, 42, 43, 44, 45, 46, 47, 48, 49, 50, 51, 52, 53, 54, 55, 56, 57, 58, 59, 60, 61, 62, 63, 64, 65, 66, 67, 68] (by decide +kernel) (by decide +kernel)
set_option maxRecDepth 20000 in
theorem gX8_mayWake_X8_next : GoodIn wsX8_mayWake (wsV RX8 153 RX8 yX8_next wsX8_next) := goodIn_app (goodIn_of _ (by decide +kernel)) ggX8_mayWake_X8_next
set_option maxRecDepth 20000 in
theorem ggX8_mayWake_X8_wakes : GoodIn wsX8_mayWake wsX8_wakes := goodIn_r _ [17, 18, 19, 2, 20, 1, 33, 34, 35, 36, 37, 38, 39, 40, 41, 42, 43, 44, 45, 46, 47, 48, 49, 50, 51, 52, 53, 54, 55, 56, 57, 58, 59, 60, 61, 62, 63, 64, 65, 66, 67, 68] (by decide +kernel) (by decide +kernel)
set_option maxRecDepth 20000 in
theorem gX8_mayWake_X8_wakes : GoodIn wsX8_mayWake (wsV RX8 110 RX8 yX8_wakes wsX8_wakes) := goodIn_app (goodIn_of _ (by decide +kernel)) ggX8_mayWake_X8_wakes
set_option maxRecDepth 20000 in
theorem ggX8_mayWake_X8_isEvent : GoodIn wsX8_mayWake wsX8_isEvent := goodIn_r _ [24, 25, 26, 2, 33, 34, 35, 36, 37, 38, 39, 40, 41, 42, 43, 44, 45, 46, 47, 48, 49, 50, 51, 52, 53, 54, 55, 56, 57, 58, 59, 60, 61, 62, 63, 64, 65, 66, 67, 68] (by decide +kernel) (by decide +kernel)
set_option maxRecDepth 20000 in
theorem gX8_mayWake_X8_isEvent : GoodIn wsX8_mayWake (wsV RX8 156 RX8 yX8_isEvent wsX8_isEvent) := goodIn_app (goodIn_of _ (by decide +kernel)) ggX8_mayWake_X8_isEvent
set_option maxRecDepth 20000 in
theorem ggX8_mayWake_X8_spends : GoodIn wsX8_mayWake wsX8_spends := goodIn_r _ [30, 31, 32, 33, 34, 35, 36, 37, 38, 39, 40, 41, 42, 43, 44, 45, 46, 47, 48, 49, 50, 51, 52, 53, 54, 55, 56, 57, 58, 59, 60, 61, 62, 63, 64, 65, 66, 67, 68] (by decide +kernel) (by decide +kernel)
set_option maxRecDepth 20000 in
theorem gX8_mayWake_X8_spends : GoodIn wsX8_mayWake (wsV RX8 106 RX8 yX8_spends wsX8_spends) := goodIn_app (goodIn_of _ (by decide +kernel)) ggX8_mayWake_X8_spends
set_option maxRecDepth 20000 in
theorem ggX8_serves_X8_spends : GoodIn wsX8_serves wsX8_spends := goodIn_r _ [7, 8, 9, 10, 11, 12, 13, 14, 15, 16, 17, 18, 19, 20, 21, 22, 23, 24, 25, 26, 27, 28, 29, 30, 31, 32, 33, 34, 35, 36, 37, 38, 39, 40, 41, 42, 43, 44, 45] (by decide +kernel) (by decide +kernel)
set_option maxRecDepth 20000 in
theorem gX8_serves_X8_spends : GoodIn wsX8_serves (wsV RX8 106 RX8 yX8_spends wsX8_spends) := goodIn_app (goodIn_of _ (by decide +kernel)) ggX8_serves_X8_spends
set_option maxRecDepth 20000 in
theorem ggX8_servesAll_X8_serves : GoodIn wsX8_servesAll wsX8_serves := goodIn_r _ [13, 14, 15, 16, 17, 18, 12, 19, 20, 21, 22, 23, 24, 25, 26, 27, 28, 29, 30, 31, 32, 33, 34, 35, 36, 37, 38, 39, 40, 41, 42, 43, 44, 45, 46, 47, 48, 49, 50, 51, 52, 53, 54, 55, 56, 57] (by decide +kernel) (by decide +kernel)
set_option maxRecDepth 20000 in
theorem gX8_servesAll_X8_serves : GoodIn wsX8_servesAll (wsV RX8 166 RX8 yX8_serves wsX8_serves) := goodIn_app (goodIn_of _ (by decide +kernel)) ggX8_servesAll_X8_serves
set_option maxRecDepth 20000 in
theorem ggX8_chooses_X8_deepestNow : GoodIn wsX8_chooses wsX8_deepestNow := goodIn_r _ [6, 7, 8, 9, 10, 11, 12, 13, 5, 14, 15, 16, 34, 35, 36, 37, 38, 39, 40, 41, 42, 43, 44, 45, 46, 47, 48, 49, 50, 51, 52, 53, 54, 55, 56, 57, 58, 59, 60, 61, 62, 63, 64, 65, 66, 67, 68, 69] (by decide +kernel) (by decide +kernel)
set_option maxRecDepth 20000 in
theorem gX8_chooses_X8_deepestNow : GoodIn wsX8_chooses (wsV RX8 135 RX8 yX8_deepestNow wsX8_deepestNow) := goodIn_app (goodIn_of _ (by decide +kernel)) ggX8_chooses_X8_deepestNow
set_option maxRecDepth 20000 in
theorem ggX8_chooses_X8_evenAt : GoodIn wsX8_chooses wsX8_evenAt := goodIn_r _ [20, 1, 21, 22, 23, 5, 24, 25, 26, 34, 35, 36, 37, 38, 39, 40, 41, 42, 43, 44, 45, 46, 47, 48, 49, 50, 51, 52, 53, 54, 55, 56, 57, 58, 59, 60, 61, 62, 63, 64, 65, 66, 67, 68, 69] (by decide +kernel) (by decide +kernel)
set_option maxRecDepth 20000 in
theorem gX8_chooses_X8_evenAt : GoodIn wsX8_chooses (wsV RX8 143 RX8 yX8_evenAt wsX8_evenAt) := goodIn_app (goodIn_of _ (by decide +kernel)) ggX8_chooses_X8_evenAt
set_option maxRecDepth 20000 in
theorem ggX8_chooses_X8_mean : GoodIn wsX8_chooses wsX8_mean := goodIn_r _ [30, 31, 32, 33, 34, 35, 36, 37, 38, 39, 40, 41, 42, 43, 44, 45, 46, 47, 48, 49, 50, 51, 52, 53, 54, 55, 56, 57, 58, 59, 60, 61, 62, 63, 64, 65, 66, 67, 68, 69] (by decide +kernel) (by decide +kernel)
set_option maxRecDepth 20000 in
theorem gX8_chooses_X8_mean : GoodIn wsX8_chooses (wsV RX8 170 RX8 yX8_mean wsX8_mean) := goodIn_app (goodIn_of _ (by decide +kernel)) ggX8_chooses_X8_mean
set_option maxRecDepth 20000 in
theorem ggX8_governs_X8_next : GoodIn wsX8_governs wsX8_next := goodIn_r _ [11, 12, 13, 14, 55, 56, 57, 58, 59, 60, 61, 62, 63, 64, 65, 66, 67, 68, 69, 70, 71, 72, 73, 74, 75, 76, 77, 78, 79, 80, 81, 82, 83, 84, 85, 86, 87, 88, 89, 90] (by decide +kernel) (by decide +kernel)
set_option maxRecDepth 20000 in
theorem gX8_governs_X8_next : GoodIn wsX8_governs (wsV RX8 153 RX8 yX8_next wsX8_next) := goodIn_app (goodIn_of _ (by decide +kernel)) ggX8_governs_X8_next
set_option maxRecDepth 20000 in
theorem ggX8_governs_X8_chooses : GoodIn wsX8_governs wsX8_chooses := goodIn_r _ [18, 19, 20, 21, 22, 10, 23, 24, 25, 26, 27, 28, 29, 30, 31, 32, 33, 34, 35, 36, 37, 38, 39, 40, 41, 42, 3, 43, 44, 45, 46, 47, 48, 12, 55, 56, 57, 58, 59, 60, 61, 62, 63, 64, 65, 66, 67, 68, 69, 70, 71, 72, 73, 74, 75, 76, 77, 78, 79, 80, 81, 82, 83, 84, 85, 86, 87, 88, 89, 90] (by decide +kernel) (by decide +kernel)
set_option maxRecDepth 20000 in
theorem gX8_governs_X8_chooses : GoodIn wsX8_governs (wsV RX8 173 RX8 yX8_chooses wsX8_chooses) := goodIn_app (goodIn_of _ (by decide +kernel)) ggX8_governs_X8_chooses
set_option maxRecDepth 20000 in
theorem ggX8_governs_X8_spends : GoodIn wsX8_governs wsX8_spends := goodIn_r _ [52, 53, 54, 55, 56, 57, 58, 59, 60, 61, 62, 63, 64, 65, 66, 67, 68, 69, 70, 71, 72, 73, 74, 75, 76, 77, 78, 79, 80, 81, 82, 83, 84, 85, 86, 87, 88, 89, 90] (by decide +kernel) (by decide +kernel)
set_option maxRecDepth 20000 in
theorem gX8_governs_X8_spends : GoodIn wsX8_governs (wsV RX8 106 RX8 yX8_spends wsX8_spends) := goodIn_app (goodIn_of _ (by decide +kernel)) ggX8_governs_X8_spends
set_option maxRecDepth 20000 in
theorem ggX8_battery_X8_down : GoodIn wsX8_battery wsX8_down := goodIn_r _ [13] (by decide +kernel) (by decide +kernel)
set_option maxRecDepth 20000 in
theorem gX8_battery_X8_down : GoodIn wsX8_battery (va_wsS RX8 185 yX8_down wsX8_down) := goodIn_app (goodIn_of _ (by decide +kernel)) ggX8_battery_X8_down
set_option maxRecDepth 20000 in
theorem ggX8_playsOne_X8_mayWake : GoodIn wsX8_playsOne wsX8_mayWake := goodIn_r _ [10, 1, 2, 4, 3, 11, 12, 13, 14, 9, 15, 16, 17, 18, 19, 20, 21, 22, 23, 24, 25, 26, 27, 28, 29, 30, 31, 32, 33, 34, 35, 36, 37, 101, 102, 103, 104, 105, 106, 107, 108, 109, 110, 111, 112, 113, 114, 115, 116, 117, 118, 119, 120, 121, 122, 123, 124, 125, 126, 127, 128, 129, 130, 131, 132, 133, 134, 135, 136] (by decide +kernel) (by decide +kernel)
set_option maxRecDepth 20000 in
theorem gX8_playsOne_X8_mayWake : GoodIn wsX8_playsOne (wsV RX8 188 RX8 yX8_mayWake wsX8_mayWake) := goodIn_app (goodIn_of _ (by decide +kernel)) ggX8_playsOne_X8_mayWake
set_option maxRecDepth 20000 in
theorem ggX8_playsOne_X8_servesAll : GoodIn wsX8_playsOne wsX8_servesAll := goodIn_r _ [41, 30, 31, 2, 42, 17, 43, 44, 18, 45, 46, 47, 9, 48, 49, 4, 32, 33, 34, 35, 36, 37, 101, 102, 103, 104, 105, 106, 107, 108, 109, 110, 111, 112, 113, 114, 115, 116, 117, 118, 119, 120, 121, 122, 123, 124, 125, 126, 127, 128, 129, 130, 131, 132, 133, 134, 135, 136] (by decide +kernel) (by decide +kernel)
set_option maxRecDepth 20000 in
theorem gX8_playsOne_X8_servesAll : GoodIn wsX8_playsOne (wsV RX8 191 RX8 yX8_servesAll wsX8_servesAll) := goodIn_app (goodIn_of _ (by decide +kernel)) ggX8_playsOne_X8_servesAll
set_option maxRecDepth 20000 in
theorem ggX8_playsOne_X8_governs : GoodIn wsX8_playsOne wsX8_governs := goodIn_r _ [53, 54, 2, 55, 1, 25, 56, 12, 13, 14, 9, 15, 16, 17, 18, 57, 58, 59, 60, 3, 61, 62, 63, 64, 65, 66, 67, 68, 69, 70, 71, 72, 73, 74, 75, 76, 77, 78, 79, 80, 81, 82, 4, 83, 84, 85, 86, 24, 23, 32, 33, 34, 35, 36, 37, 101, 102, 103, 104, 105, 106, 107, 108, 109, 110, 111, 112, 113, 114, 115, 116, 117, 118, 119, 120, 121, 122, 123, 124, 125, 126, 127, 128, 129, 130, 131, 132, 133, 134, 135, 136] (by decide +kernel) (by decide +kernel)
set_option maxRecDepth 20000 in
theorem gX8_playsOne_X8_governs : GoodIn wsX8_playsOne (wsV RX8 194 RX8 yX8_governs wsX8_governs) := goodIn_app (goodIn_of _ (by decide +kernel)) ggX8_playsOne_X8_governs
set_option maxRecDepth 20000 in
theorem ggX8_playsOne_X8_next : GoodIn wsX8_playsOne wsX8_next := goodIn_r _ [15, 16, 17, 18, 101, 102, 103, 104, 105, 106, 107, 108, 109, 110, 111, 112, 113, 114, 115, 116, 117, 118, 119, 120, 121, 122, 123, 124, 125, 126, 127, 128, 129, 130, 131, 132, 133, 134, 135, 136] (by decide +kernel) (by decide +kernel)
set_option maxRecDepth 20000 in
theorem gX8_playsOne_X8_next : GoodIn wsX8_playsOne (wsV RX8 153 RX8 yX8_next wsX8_next) := goodIn_app (goodIn_of _ (by decide +kernel)) ggX8_playsOne_X8_next
set_option maxRecDepth 20000 in
theorem ggX8_playsOne_X8_spends : GoodIn wsX8_playsOne wsX8_spends := goodIn_r _ [35, 36, 37, 101, 102, 103, 104, 105, 106, 107, 108, 109, 110, 111, 112, 113, 114, 115, 116, 117, 118, 119, 120, 121, 122, 123, 124, 125, 126, 127, 128, 129, 130, 131, 132, 133, 134, 135, 136] (by decide +kernel) (by decide +kernel)
set_option maxRecDepth 20000 in
theorem gX8_playsOne_X8_spends : GoodIn wsX8_playsOne (wsV RX8 106 RX8 yX8_spends wsX8_spends) := goodIn_app (goodIn_of _ (by decide +kernel)) ggX8_playsOne_X8_spends
set_option maxRecDepth 20000 in
theorem ggX8_playsOne_X8_battery : GoodIn wsX8_playsOne wsX8_battery := goodIn_r _ [90, 91, 92, 2, 37, 93, 94, 95, 96, 97, 98, 99, 9, 100, 101, 102, 103, 104, 105, 106, 107, 108, 109, 110, 111, 112, 113, 114, 115, 116, 117, 118, 119, 120, 121, 122, 123, 124, 125, 126, 127, 128, 129, 130, 131, 132, 133, 134, 135, 136] (by decide +kernel) (by decide +kernel)
set_option maxRecDepth 20000 in
theorem gX8_playsOne_X8_battery : GoodIn wsX8_playsOne (wsV RX8 197 RX8 yX8_battery wsX8_battery) := goodIn_app (goodIn_of _ (by decide +kernel)) ggX8_playsOne_X8_battery
set_option maxRecDepth 20000 in
theorem ggX8_play_X8_in : GoodIn wsX8_play wsX8_in := goodIn_r _ [5] (by decide +kernel) (by decide +kernel)
set_option maxRecDepth 20000 in
theorem gX8_play_X8_in : GoodIn wsX8_play (va_wsS RX8 113 yX8_in wsX8_in) := goodIn_app (goodIn_of _ (by decide +kernel)) ggX8_play_X8_in
set_option maxRecDepth 20000 in
theorem ggX8_play_X8_asks : GoodIn wsX8_play wsX8_asks := goodIn_r _ [9, 10, 113, 114, 115, 116, 117, 118, 119, 120, 121, 122, 123, 124, 125, 126, 127, 128, 129, 130, 131, 132, 133, 134, 135, 136, 137, 138, 139, 140, 141, 142, 143, 144, 145, 146, 147, 148] (by decide +kernel) (by decide +kernel)
set_option maxRecDepth 20000 in
theorem gX8_play_X8_asks : GoodIn wsX8_play (wsV RX8 117 RX8 yX8_asks wsX8_asks) := goodIn_app (goodIn_of _ (by decide +kernel)) ggX8_play_X8_asks
set_option maxRecDepth 20000 in
theorem ggX8_play_X8_playsOne : GoodIn wsX8_play wsX8_playsOne := goodIn_r _ [14, 15, 1, 16, 17, 18, 19, 20, 21, 4, 22, 23, 24, 25, 26, 27, 28, 29, 30, 31, 32, 33, 34, 35, 36, 37, 38, 39, 40, 41, 42, 43, 44, 45, 46, 47, 48, 49, 50, 51, 52, 53, 54, 55, 56, 57, 58, 59, 60, 61, 62, 63, 64, 65, 66, 67, 68, 69, 70, 71, 72, 73, 74, 75, 76, 77, 78, 79, 80, 81, 82, 83, 84, 85, 86, 87, 88, 89, 90, 91, 92, 93, 94, 95, 96, 97, 98, 99, 100, 101, 102, 103, 104, 105, 106, 107, 108, 109, 110, 111, 112, 113, 114, 115, 116, 117, 118, 119, 120, 121, 122, 123, 124, 125, 126, 127, 128, 129, 130, 131, 132, 133, 134, 135, 136, 137, 138, 139, 140, 141, 142, 143, 144, 145, 146, 147, 148] (by decide +kernel) (by decide +kernel)
set_option maxRecDepth 20000 in
theorem gX8_play_X8_playsOne : GoodIn wsX8_play (wsV RX8 200 RX8 yX8_playsOne wsX8_playsOne) := goodIn_app (goodIn_of _ (by decide +kernel)) ggX8_play_X8_playsOne
set_option maxRecDepth 20000 in
theorem ggX8_ticksIn_X8_in : GoodIn wsX8_ticksIn wsX8_in := goodIn_r _ [5] (by decide +kernel) (by decide +kernel)
set_option maxRecDepth 20000 in
theorem gX8_ticksIn_X8_in : GoodIn wsX8_ticksIn (va_wsS RX8 113 yX8_in wsX8_in) := goodIn_app (goodIn_of _ (by decide +kernel)) ggX8_ticksIn_X8_in
set_option maxRecDepth 20000 in
theorem ggX8_ticksIn_X8_asks : GoodIn wsX8_ticksIn wsX8_asks := goodIn_r _ [9, 10, 11, 12, 13, 14, 15, 16, 17, 18, 19, 20, 21, 22, 23, 24, 25, 26, 27, 28, 29, 30, 31, 32, 33, 34, 35, 36, 37, 38, 39, 40, 41, 42, 43, 44, 45, 46] (by decide +kernel) (by decide +kernel)
set_option maxRecDepth 20000 in
theorem gX8_ticksIn_X8_asks : GoodIn wsX8_ticksIn (wsV RX8 117 RX8 yX8_asks wsX8_asks) := goodIn_app (goodIn_of _ (by decide +kernel)) ggX8_ticksIn_X8_asks
set_option maxRecDepth 20000 in
theorem ggX8_setHarvest_X8_in : GoodIn wsX8_setHarvest wsX8_in := goodIn_r _ [5] (by decide +kernel) (by decide +kernel)
set_option maxRecDepth 20000 in
theorem gX8_setHarvest_X8_in : GoodIn wsX8_setHarvest (va_wsS RX8 113 yX8_in wsX8_in) := goodIn_app (goodIn_of _ (by decide +kernel)) ggX8_setHarvest_X8_in
set_option maxRecDepth 20000 in
theorem ggX8_setHarvest_X8_asks : GoodIn wsX8_setHarvest wsX8_asks := goodIn_r _ [9, 10, 11, 12, 13, 14, 15, 16, 17, 18, 19, 20, 21, 22, 23, 24, 25, 26, 27, 28, 29, 30, 31, 32, 33, 34, 35, 36, 37, 38, 39, 40, 41, 42, 43, 44, 45, 46] (by decide +kernel) (by decide +kernel)
set_option maxRecDepth 20000 in
theorem gX8_setHarvest_X8_asks : GoodIn wsX8_setHarvest (wsV RX8 117 RX8 yX8_asks wsX8_asks) := goodIn_app (goodIn_of _ (by decide +kernel)) ggX8_setHarvest_X8_asks
set_option maxRecDepth 20000 in
theorem ggX8_wakeups_X8_nextPlanned : GoodIn wsX8_wakeups wsX8_nextPlanned := goodIn_r _ [5, 6, 7, 8, 9, 10, 11, 12, 13, 14, 15, 16, 17, 18, 19, 20, 21, 22, 23, 24, 25, 26, 27, 28, 29, 30, 31, 32, 33, 34, 35, 36, 37, 38, 39, 40, 41, 42, 43, 44] (by decide +kernel) (by decide +kernel)
set_option maxRecDepth 20000 in
theorem gX8_wakeups_X8_nextPlanned : GoodIn wsX8_wakeups (wsV RX8 203 RX8 yX8_nextPlanned wsX8_nextPlanned) := goodIn_app (goodIn_of _ (by decide +kernel)) ggX8_wakeups_X8_nextPlanned
set_option maxRecDepth 20000 in
theorem ggX8_plannedWakeups_X8_isReach : GoodIn wsX8_plannedWakeups wsX8_isReach := goodIn_r _ [5, 6, 23, 24, 25, 26, 27, 28, 29, 30, 31, 32, 33, 34, 35, 36, 37, 38, 39, 40, 41, 42, 43, 44, 45, 46, 47, 48, 49, 50, 51, 52, 53, 54, 55, 56, 57, 58] (by decide +kernel) (by decide +kernel)
set_option maxRecDepth 20000 in
theorem gX8_plannedWakeups_X8_isReach : GoodIn wsX8_plannedWakeups (wsV RX8 206 RX8 yX8_isReach wsX8_isReach) := goodIn_app (goodIn_of _ (by decide +kernel)) ggX8_plannedWakeups_X8_isReach
set_option maxRecDepth 20000 in
theorem ggX8_plannedWakeups_X8_asks : GoodIn wsX8_plannedWakeups wsX8_asks := goodIn_r _ [10, 11, 23, 24, 25, 26, 27, 28, 29, 30, 31, 32, 33, 34, 35, 36, 37, 38, 39, 40, 41, 42, 43, 44, 45, 46, 47, 48, 49, 50, 51, 52, 53, 54, 55, 56, 57, 58] (by decide +kernel) (by decide +kernel)
set_option maxRecDepth 20000 in
theorem gX8_plannedWakeups_X8_asks : GoodIn wsX8_plannedWakeups (wsV RX8 117 RX8 yX8_asks wsX8_asks) := goodIn_app (goodIn_of _ (by decide +kernel)) ggX8_plannedWakeups_X8_asks
set_option maxRecDepth 20000 in
theorem ggX8_plannedWakeups_X8_wakeups : GoodIn wsX8_plannedWakeups wsX8_wakeups := goodIn_r _ [15, 16, 17, 18, 4, 19, 20, 21, 22, 23, 24, 25, 26, 27, 28, 29, 30, 31, 32, 33, 34, 35, 36, 37, 38, 39, 40, 41, 42, 43, 44, 45, 46, 47, 48, 49, 50, 51, 52, 53, 54, 55, 56, 57, 58] (by decide +kernel) (by decide +kernel)
set_option maxRecDepth 20000 in
theorem gX8_plannedWakeups_X8_wakeups : GoodIn wsX8_plannedWakeups (wsV RX8 209 RX8 yX8_wakeups wsX8_wakeups) := goodIn_app (goodIn_of _ (by decide +kernel)) ggX8_plannedWakeups_X8_wakeups
set_option maxRecDepth 20000 in
theorem ggX8_fewestWakeups_X8_isReach : GoodIn wsX8_fewestWakeups wsX8_isReach := goodIn_r _ [5, 6, 23, 24, 25, 26, 27, 28, 29, 30, 31, 32, 33, 34, 35, 36, 37, 38, 39, 40, 41, 42, 43, 44, 45, 46, 47, 48, 49, 50, 51, 52, 53, 54, 55, 56, 57, 58] (by decide +kernel) (by decide +kernel)
set_option maxRecDepth 20000 in
theorem gX8_fewestWakeups_X8_isReach : GoodIn wsX8_fewestWakeups (wsV RX8 206 RX8 yX8_isReach wsX8_isReach) := goodIn_app (goodIn_of _ (by decide +kernel)) ggX8_fewestWakeups_X8_isReach
set_option maxRecDepth 20000 in
theorem ggX8_fewestWakeups_X8_asks : GoodIn wsX8_fewestWakeups wsX8_asks := goodIn_r _ [10, 11, 23, 24, 25, 26, 27, 28, 29, 30, 31, 32, 33, 34, 35, 36, 37, 38, 39, 40, 41, 42, 43, 44, 45, 46, 47, 48, 49, 50, 51, 52, 53, 54, 55, 56, 57, 58] (by decide +kernel) (by decide +kernel)
set_option maxRecDepth 20000 in
theorem gX8_fewestWakeups_X8_asks : GoodIn wsX8_fewestWakeups (wsV RX8 117 RX8 yX8_asks wsX8_asks) := goodIn_app (goodIn_of _ (by decide +kernel)) ggX8_fewestWakeups_X8_asks
set_option maxRecDepth 20000 in
theorem ggX8_fewestWakeups_X8_wakeups : GoodIn wsX8_fewestWakeups wsX8_wakeups := goodIn_r _ [15, 16, 17, 18, 4, 19, 20, 21, 22, 23, 24, 25, 26, 27, 28, 29, 30, 31, 32, 33, 34, 35, 36, 37, 38, 39, 40, 41, 42, 43, 44, 45, 46, 47, 48, 49, 50, 51, 52, 53, 54, 55, 56, 57, 58] (by decide +kernel) (by decide +kernel)
set_option maxRecDepth 20000 in
theorem gX8_fewestWakeups_X8_wakeups : GoodIn wsX8_fewestWakeups (wsV RX8 209 RX8 yX8_wakeups wsX8_wakeups) := goodIn_app (goodIn_of _ (by decide +kernel)) ggX8_fewestWakeups_X8_wakeups
set_option maxRecDepth 20000 in
theorem ggX8_plannedCost_X8_isReach : GoodIn wsX8_plannedCost wsX8_isReach := goodIn_r _ [6, 1, 55, 56, 57, 58, 59, 60, 61, 62, 63, 64, 65, 66, 67, 68, 69, 70, 71, 72, 73, 74, 75, 76, 77, 78, 79, 80, 81, 82, 83, 84, 85, 86, 87, 88, 89, 90] (by decide +kernel) (by decide +kernel)
set_option maxRecDepth 20000 in
theorem gX8_plannedCost_X8_isReach : GoodIn wsX8_plannedCost (wsV RX8 206 RX8 yX8_isReach wsX8_isReach) := goodIn_app (goodIn_of _ (by decide +kernel)) ggX8_plannedCost_X8_isReach
set_option maxRecDepth 20000 in
theorem ggX8_plannedCost_X8_asks : GoodIn wsX8_plannedCost wsX8_asks := goodIn_r _ [10, 11, 55, 56, 57, 58, 59, 60, 61, 62, 63, 64, 65, 66, 67, 68, 69, 70, 71, 72, 73, 74, 75, 76, 77, 78, 79, 80, 81, 82, 83, 84, 85, 86, 87, 88, 89, 90] (by decide +kernel) (by decide +kernel)
set_option maxRecDepth 20000 in
theorem gX8_plannedCost_X8_asks : GoodIn wsX8_plannedCost (wsV RX8 117 RX8 yX8_asks wsX8_asks) := goodIn_app (goodIn_of _ (by decide +kernel)) ggX8_plannedCost_X8_asks
set_option maxRecDepth 20000 in
theorem ggX8_plannedCost_X8_nextPlanned : GoodIn wsX8_plannedCost wsX8_nextPlanned := goodIn_r _ [15, 16, 17, 18, 55, 56, 57, 58, 59, 60, 61, 62, 63, 64, 65, 66, 67, 68, 69, 70, 71, 72, 73, 74, 75, 76, 77, 78, 79, 80, 81, 82, 83, 84, 85, 86, 87, 88, 89, 90] (by decide +kernel) (by decide +kernel)
set_option maxRecDepth 20000 in
theorem gX8_plannedCost_X8_nextPlanned : GoodIn wsX8_plannedCost (wsV RX8 203 RX8 yX8_nextPlanned wsX8_nextPlanned) := goodIn_app (goodIn_of _ (by decide +kernel)) ggX8_plannedCost_X8_nextPlanned
set_option maxRecDepth 20000 in
theorem ggX8_plannedCost_X8_chooses : GoodIn wsX8_plannedCost wsX8_chooses := goodIn_r _ [22, 23, 24, 25, 26, 5, 27, 28, 29, 30, 31, 32, 33, 34, 35, 36, 37, 38, 39, 40, 41, 42, 43, 44, 45, 46, 47, 48, 49, 50, 51, 52, 53, 54, 55, 56, 57, 58, 59, 60, 61, 62, 63, 64, 65, 66, 67, 68, 69, 70, 71, 72, 73, 74, 75, 76, 77, 78, 79, 80, 81, 82, 83, 84, 85, 86, 87, 88, 89, 90] (by decide +kernel) (by decide +kernel)
set_option maxRecDepth 20000 in
theorem gX8_plannedCost_X8_chooses : GoodIn wsX8_plannedCost (wsV RX8 173 RX8 yX8_chooses wsX8_chooses) := goodIn_app (goodIn_of _ (by decide +kernel)) ggX8_plannedCost_X8_chooses
set_option maxRecDepth 20000 in
theorem ggX8_plannedCost_X8_idleCost : GoodIn wsX8_plannedCost wsX8_idleCost := goodIn_r _ [45, 46, 47, 23, 55, 56, 57, 58, 59, 60, 61, 62, 63, 64, 65, 66, 67, 68, 69, 70, 71, 72, 73, 74, 75, 76, 77, 78, 79, 80, 81, 82, 83, 84, 85, 86, 87, 88, 89, 90] (by decide +kernel) (by decide +kernel)
set_option maxRecDepth 20000 in
theorem gX8_plannedCost_X8_idleCost : GoodIn wsX8_plannedCost (wsV RX8 139 RX8 yX8_idleCost wsX8_idleCost) := goodIn_app (goodIn_of _ (by decide +kernel)) ggX8_plannedCost_X8_idleCost
set_option maxRecDepth 20000 in
theorem ggX8_leastCost_X8_isReach : GoodIn wsX8_leastCost wsX8_isReach := goodIn_r _ [10, 1, 43, 44, 45, 46, 47, 48, 49, 50, 51, 52, 53, 54, 55, 56, 57, 58, 59, 60, 61, 62, 63, 64, 65, 66, 67, 68, 69, 70, 71, 72, 73, 74, 75, 76, 77, 78] (by decide +kernel) (by decide +kernel)
set_option maxRecDepth 20000 in
theorem gX8_leastCost_X8_isReach : GoodIn wsX8_leastCost (wsV RX8 206 RX8 yX8_isReach wsX8_isReach) := goodIn_app (goodIn_of _ (by decide +kernel)) ggX8_leastCost_X8_isReach
set_option maxRecDepth 20000 in
theorem ggX8_leastCost_X8_asks : GoodIn wsX8_leastCost wsX8_asks := goodIn_r _ [14, 15, 43, 44, 45, 46, 47, 48, 49, 50, 51, 52, 53, 54, 55, 56, 57, 58, 59, 60, 61, 62, 63, 64, 65, 66, 67, 68, 69, 70, 71, 72, 73, 74, 75, 76, 77, 78] (by decide +kernel) (by decide +kernel)
set_option maxRecDepth 20000 in
theorem gX8_leastCost_X8_asks : GoodIn wsX8_leastCost (wsV RX8 117 RX8 yX8_asks wsX8_asks) := goodIn_app (goodIn_of _ (by decide +kernel)) ggX8_leastCost_X8_asks
set_option maxRecDepth 20000 in
theorem ggX8_leastCost_X8_deepestNow : GoodIn wsX8_leastCost wsX8_deepestNow := goodIn_r _ [19, 20, 21, 22, 23, 24, 25, 26, 9, 27, 28, 29, 43, 44, 45, 46, 47, 48, 49, 50, 51, 52, 53, 54, 55, 56, 57, 58, 59, 60, 61, 62, 63, 64, 65, 66, 67, 68, 69, 70, 71, 72, 73, 74, 75, 76, 77, 78] (by decide +kernel) (by decide +kernel)
set_option maxRecDepth 20000 in
theorem gX8_leastCost_X8_deepestNow : GoodIn wsX8_leastCost (wsV RX8 135 RX8 yX8_deepestNow wsX8_deepestNow) := goodIn_app (goodIn_of _ (by decide +kernel)) ggX8_leastCost_X8_deepestNow
set_option maxRecDepth 20000 in
theorem ggX8_leastCost_X8_idleCost : GoodIn wsX8_leastCost wsX8_idleCost := goodIn_r _ [33, 34, 35, 3, 43, 44, 45, 46, 47, 48, 49, 50, 51, 52, 53, 54, 55, 56, 57, 58, 59, 60, 61, 62, 63, 64, 65, 66, 67, 68, 69, 70, 71, 72, 73, 74, 75, 76, 77, 78] (by decide +kernel) (by decide +kernel)
set_option maxRecDepth 20000 in
theorem gX8_leastCost_X8_idleCost : GoodIn wsX8_leastCost (wsV RX8 139 RX8 yX8_idleCost wsX8_idleCost) := goodIn_app (goodIn_of _ (by decide +kernel)) ggX8_leastCost_X8_idleCost
set_option maxRecDepth 20000 in
theorem ggX8_leastCost_X8_nextPlanned : GoodIn wsX8_leastCost wsX8_nextPlanned := goodIn_r _ [39, 40, 41, 42, 43, 44, 45, 46, 47, 48, 49, 50, 51, 52, 53, 54, 55, 56, 57, 58, 59, 60, 61, 62, 63, 64, 65, 66, 67, 68, 69, 70, 71, 72, 73, 74, 75, 76, 77, 78] (by decide +kernel) (by decide +kernel)
set_option maxRecDepth 20000 in
theorem gX8_leastCost_X8_nextPlanned : GoodIn wsX8_leastCost (wsV RX8 203 RX8 yX8_nextPlanned wsX8_nextPlanned) := goodIn_app (goodIn_of _ (by decide +kernel)) ggX8_leastCost_X8_nextPlanned
end
section
theorem dX0_init_0 : decode cX0_init 0 = .ok (.aload_n 0, 1) := by decide +kernel
theorem dX0_init_1 : decode cX0_init 1 = .ok (.invokespecial 3, 3) := by decide +kernel
theorem dX0_init_4 : decode cX0_init 4 = .ok (.aload_n 0, 1) := by decide +kernel
theorem dX0_init_5 : decode cX0_init 5 = .ok (.bipush 24, 2) := by decide +kernel
theorem dX0_init_7 : decode cX0_init 7 = .ok (.newarray .int, 2) := by decide +kernel
theorem dX0_init_9 : decode cX0_init 9 = .ok (.putfield 9, 3) := by decide +kernel
theorem dX0_init_12 : decode cX0_init 12 = .ok (.aload_n 0, 1) := by decide +kernel
theorem dX0_init_13 : decode cX0_init 13 = .ok (.ldc 15, 2) := by decide +kernel
theorem dX0_init_15 : decode cX0_init 15 = .ok (.putfield 16, 3) := by decide +kernel
theorem dX0_init_18 : decode cX0_init 18 = .ok (.aload_n 0, 1) := by decide +kernel
theorem dX0_init_19 : decode cX0_init 19 = .ok (.ldc 20, 2) := by decide +kernel
theorem dX0_init_21 : decode cX0_init 21 = .ok (.putfield 21, 3) := by decide +kernel
theorem dX0_init_24 : decode cX0_init 24 = .ok (.aload_n 0, 1) := by decide +kernel
theorem dX0_init_25 : decode cX0_init 25 = .ok (.iconst 0, 1) := by decide +kernel
theorem dX0_init_26 : decode cX0_init 26 = .ok (.putfield 24, 3) := by decide +kernel
theorem dX0_init_29 : decode cX0_init 29 = .ok (.return_, 1) := by decide +kernel
theorem dX0_takeTick_0 : decode cX0_takeTick 0 = .ok (.aload_n 0, 1) := by decide +kernel
theorem dX0_takeTick_1 : decode cX0_takeTick 1 = .ok (.getfield 16, 3) := by decide +kernel
theorem dX0_takeTick_4 : decode cX0_takeTick 4 = .ok (.aload_n 0, 1) := by decide +kernel
theorem dX0_takeTick_5 : decode cX0_takeTick 5 = .ok (.getfield 9, 3) := by decide +kernel
theorem dX0_takeTick_8 : decode cX0_takeTick 8 = .ok (.iload_n 1, 1) := by decide +kernel
theorem dX0_takeTick_9 : decode cX0_takeTick 9 = .ok (.invokestatic 27, 3) := by decide +kernel
theorem dX0_takeTick_12 : decode cX0_takeTick 12 = .ok (.iadd, 1) := by decide +kernel
theorem dX0_takeTick_13 : decode cX0_takeTick 13 = .ok (.i2l, 1) := by decide +kernel
theorem dX0_takeTick_14 : decode cX0_takeTick 14 = .ok (.lload_n 2, 1) := by decide +kernel
theorem dX0_takeTick_15 : decode cX0_takeTick 15 = .ok (.lsub, 1) := by decide +kernel
theorem dX0_takeTick_16 : decode cX0_takeTick 16 = .ok (.lstore 4, 2) := by decide +kernel
theorem dX0_takeTick_18 : decode cX0_takeTick 18 = .ok (.lload 4, 2) := by decide +kernel
theorem dX0_takeTick_20 : decode cX0_takeTick 20 = .ok (.lconst 0, 1) := by decide +kernel
theorem dX0_takeTick_21 : decode cX0_takeTick 21 = .ok (.lcmp, 1) := by decide +kernel
theorem dX0_takeTick_22 : decode cX0_takeTick 22 = .ok (.ifCond .ge 13, 3) := by decide +kernel
theorem dX0_takeTick_25 : decode cX0_takeTick 25 = .ok (.aload_n 0, 1) := by decide +kernel
theorem dX0_takeTick_26 : decode cX0_takeTick 26 = .ok (.dup, 1) := by decide +kernel
theorem dX0_takeTick_27 : decode cX0_takeTick 27 = .ok (.getfield 24, 3) := by decide +kernel
theorem dX0_takeTick_30 : decode cX0_takeTick 30 = .ok (.iconst 1, 1) := by decide +kernel
theorem dX0_takeTick_31 : decode cX0_takeTick 31 = .ok (.iadd, 1) := by decide +kernel
theorem dX0_takeTick_32 : decode cX0_takeTick 32 = .ok (.putfield 24, 3) := by decide +kernel
theorem dX0_takeTick_35 : decode cX0_takeTick 35 = .ok (.aload_n 0, 1) := by decide +kernel
theorem dX0_takeTick_36 : decode cX0_takeTick 36 = .ok (.lconst 0, 1) := by decide +kernel
theorem dX0_takeTick_37 : decode cX0_takeTick 37 = .ok (.lload 4, 2) := by decide +kernel
theorem dX0_takeTick_39 : decode cX0_takeTick 39 = .ok (.ldc2_w 31, 3) := by decide +kernel
theorem dX0_takeTick_42 : decode cX0_takeTick 42 = .ok (.invokestatic 33, 3) := by decide +kernel
theorem dX0_takeTick_45 : decode cX0_takeTick 45 = .ok (.invokestatic 39, 3) := by decide +kernel
theorem dX0_takeTick_48 : decode cX0_takeTick 48 = .ok (.l2i, 1) := by decide +kernel
theorem dX0_takeTick_49 : decode cX0_takeTick 49 = .ok (.putfield 16, 3) := by decide +kernel
theorem dX0_takeTick_52 : decode cX0_takeTick 52 = .ok (.aload_n 0, 1) := by decide +kernel
theorem dX0_takeTick_53 : decode cX0_takeTick 53 = .ok (.invokevirtual 42, 3) := by decide +kernel
theorem dX0_takeTick_56 : decode cX0_takeTick 56 = .ok (.return_, 1) := by decide +kernel
theorem dX0_balance_0 : decode cX0_balance 0 = .ok (.aload_n 0, 1) := by decide +kernel
theorem dX0_balance_1 : decode cX0_balance 1 = .ok (.getfield 21, 3) := by decide +kernel
theorem dX0_balance_4 : decode cX0_balance 4 = .ok (.iconst 2, 1) := by decide +kernel
theorem dX0_balance_5 : decode cX0_balance 5 = .ok (.idiv, 1) := by decide +kernel
theorem dX0_balance_6 : decode cX0_balance 6 = .ok (.aload_n 0, 1) := by decide +kernel
theorem dX0_balance_7 : decode cX0_balance 7 = .ok (.getfield 16, 3) := by decide +kernel
theorem dX0_balance_10 : decode cX0_balance 10 = .ok (.isub, 1) := by decide +kernel
theorem dX0_balance_11 : decode cX0_balance 11 = .ok (.bipush 16, 2) := by decide +kernel
theorem dX0_balance_13 : decode cX0_balance 13 = .ok (.invokestatic 45, 3) := by decide +kernel
theorem dX0_balance_16 : decode cX0_balance 16 = .ok (.istore_n 1, 1) := by decide +kernel
theorem dX0_balance_17 : decode cX0_balance 17 = .ok (.iload_n 1, 1) := by decide +kernel
theorem dX0_balance_18 : decode cX0_balance 18 = .ok (.ifCond .lt 25, 3) := by decide +kernel
theorem dX0_balance_21 : decode cX0_balance 21 = .ok (.iload_n 1, 1) := by decide +kernel
theorem dX0_balance_22 : decode cX0_balance 22 = .ok (.aload_n 0, 1) := by decide +kernel
theorem dX0_balance_23 : decode cX0_balance 23 = .ok (.getfield 21, 3) := by decide +kernel
theorem dX0_balance_26 : decode cX0_balance 26 = .ok (.ldc 15, 2) := by decide +kernel
theorem dX0_balance_28 : decode cX0_balance 28 = .ok (.aload_n 0, 1) := by decide +kernel
theorem dX0_balance_29 : decode cX0_balance 29 = .ok (.getfield 16, 3) := by decide +kernel
theorem dX0_balance_32 : decode cX0_balance 32 = .ok (.isub, 1) := by decide +kernel
theorem dX0_balance_33 : decode cX0_balance 33 = .ok (.invokestatic 49, 3) := by decide +kernel
theorem dX0_balance_36 : decode cX0_balance 36 = .ok (.invokestatic 49, 3) := by decide +kernel
theorem dX0_balance_39 : decode cX0_balance 39 = .ok (.istore_n 1, 1) := by decide +kernel
theorem dX0_balance_40 : decode cX0_balance 40 = .ok (.goto 24, 3) := by decide +kernel
theorem dX0_balance_43 : decode cX0_balance 43 = .ok (.iload_n 1, 1) := by decide +kernel
theorem dX0_balance_44 : decode cX0_balance 44 = .ok (.ineg, 1) := by decide +kernel
theorem dX0_balance_45 : decode cX0_balance 45 = .ok (.aload_n 0, 1) := by decide +kernel
theorem dX0_balance_46 : decode cX0_balance 46 = .ok (.getfield 16, 3) := by decide +kernel
theorem dX0_balance_49 : decode cX0_balance 49 = .ok (.ldc 20, 2) := by decide +kernel
theorem dX0_balance_51 : decode cX0_balance 51 = .ok (.aload_n 0, 1) := by decide +kernel
theorem dX0_balance_52 : decode cX0_balance 52 = .ok (.getfield 21, 3) := by decide +kernel
theorem dX0_balance_55 : decode cX0_balance 55 = .ok (.isub, 1) := by decide +kernel
theorem dX0_balance_56 : decode cX0_balance 56 = .ok (.invokestatic 49, 3) := by decide +kernel
theorem dX0_balance_59 : decode cX0_balance 59 = .ok (.invokestatic 49, 3) := by decide +kernel
theorem dX0_balance_62 : decode cX0_balance 62 = .ok (.ineg, 1) := by decide +kernel
theorem dX0_balance_63 : decode cX0_balance 63 = .ok (.istore_n 1, 1) := by decide +kernel
theorem dX0_balance_64 : decode cX0_balance 64 = .ok (.aload_n 0, 1) := by decide +kernel
theorem dX0_balance_65 : decode cX0_balance 65 = .ok (.dup, 1) := by decide +kernel
theorem dX0_balance_66 : decode cX0_balance 66 = .ok (.getfield 16, 3) := by decide +kernel
theorem dX0_balance_69 : decode cX0_balance 69 = .ok (.iload_n 1, 1) := by decide +kernel
theorem dX0_balance_70 : decode cX0_balance 70 = .ok (.iadd, 1) := by decide +kernel
theorem dX0_balance_71 : decode cX0_balance 71 = .ok (.putfield 16, 3) := by decide +kernel
theorem dX0_balance_74 : decode cX0_balance 74 = .ok (.aload_n 0, 1) := by decide +kernel
theorem dX0_balance_75 : decode cX0_balance 75 = .ok (.dup, 1) := by decide +kernel
theorem dX0_balance_76 : decode cX0_balance 76 = .ok (.getfield 21, 3) := by decide +kernel
theorem dX0_balance_79 : decode cX0_balance 79 = .ok (.iload_n 1, 1) := by decide +kernel
theorem dX0_balance_80 : decode cX0_balance 80 = .ok (.isub, 1) := by decide +kernel
theorem dX0_balance_81 : decode cX0_balance 81 = .ok (.putfield 21, 3) := by decide +kernel
theorem dX0_balance_84 : decode cX0_balance 84 = .ok (.return_, 1) := by decide +kernel
theorem dX1_init_0 : decode cX1_init 0 = .ok (.aload_n 0, 1) := by decide +kernel
theorem dX1_init_1 : decode cX1_init 1 = .ok (.invokespecial 3, 3) := by decide +kernel
theorem dX1_init_4 : decode cX1_init 4 = .ok (.aload_n 0, 1) := by decide +kernel
theorem dX1_init_5 : decode cX1_init 5 = .ok (.bipush 8, 2) := by decide +kernel
theorem dX1_init_7 : decode cX1_init 7 = .ok (.newarray .int, 2) := by decide +kernel
theorem dX1_init_9 : decode cX1_init 9 = .ok (.putfield 11, 3) := by decide +kernel
theorem dX1_init_12 : decode cX1_init 12 = .ok (.aload_n 0, 1) := by decide +kernel
theorem dX1_init_13 : decode cX1_init 13 = .ok (.bipush 8, 2) := by decide +kernel
theorem dX1_init_15 : decode cX1_init 15 = .ok (.newarray .int, 2) := by decide +kernel
theorem dX1_init_17 : decode cX1_init 17 = .ok (.putfield 15, 3) := by decide +kernel
theorem dX1_init_20 : decode cX1_init 20 = .ok (.aload_n 0, 1) := by decide +kernel
theorem dX1_init_21 : decode cX1_init 21 = .ok (.bipush 8, 2) := by decide +kernel
theorem dX1_init_23 : decode cX1_init 23 = .ok (.newarray .int, 2) := by decide +kernel
theorem dX1_init_25 : decode cX1_init 25 = .ok (.putfield 18, 3) := by decide +kernel
theorem dX1_init_28 : decode cX1_init 28 = .ok (.aload_n 0, 1) := by decide +kernel
theorem dX1_init_29 : decode cX1_init 29 = .ok (.bipush 8, 2) := by decide +kernel
theorem dX1_init_31 : decode cX1_init 31 = .ok (.newarray .int, 2) := by decide +kernel
theorem dX1_init_33 : decode cX1_init 33 = .ok (.putfield 21, 3) := by decide +kernel
theorem dX1_init_36 : decode cX1_init 36 = .ok (.aload_n 0, 1) := by decide +kernel
theorem dX1_init_37 : decode cX1_init 37 = .ok (.bipush 8, 2) := by decide +kernel
theorem dX1_init_39 : decode cX1_init 39 = .ok (.newarray .boolean, 2) := by decide +kernel
theorem dX1_init_41 : decode cX1_init 41 = .ok (.putfield 24, 3) := by decide +kernel
theorem dX1_init_44 : decode cX1_init 44 = .ok (.aload_n 0, 1) := by decide +kernel
theorem dX1_init_45 : decode cX1_init 45 = .ok (.getfield 11, 3) := by decide +kernel
theorem dX1_init_48 : decode cX1_init 48 = .ok (.iconst 0, 1) := by decide +kernel
theorem dX1_init_49 : decode cX1_init 49 = .ok (.iconst (-1), 1) := by decide +kernel
theorem dX1_init_50 : decode cX1_init 50 = .ok (.iastore, 1) := by decide +kernel
theorem dX1_init_51 : decode cX1_init 51 = .ok (.aload_n 0, 1) := by decide +kernel
theorem dX1_init_52 : decode cX1_init 52 = .ok (.getfield 15, 3) := by decide +kernel
theorem dX1_init_55 : decode cX1_init 55 = .ok (.iconst 0, 1) := by decide +kernel
theorem dX1_init_56 : decode cX1_init 56 = .ok (.sipush 4800, 3) := by decide +kernel
theorem dX1_init_59 : decode cX1_init 59 = .ok (.iastore, 1) := by decide +kernel
theorem dX1_init_60 : decode cX1_init 60 = .ok (.aload_n 0, 1) := by decide +kernel
theorem dX1_init_61 : decode cX1_init 61 = .ok (.getfield 18, 3) := by decide +kernel
theorem dX1_init_64 : decode cX1_init 64 = .ok (.iconst 0, 1) := by decide +kernel
theorem dX1_init_65 : decode cX1_init 65 = .ok (.iconst 3, 1) := by decide +kernel
theorem dX1_init_66 : decode cX1_init 66 = .ok (.iastore, 1) := by decide +kernel
theorem dX1_init_67 : decode cX1_init 67 = .ok (.aload_n 0, 1) := by decide +kernel
theorem dX1_init_68 : decode cX1_init 68 = .ok (.iconst 1, 1) := by decide +kernel
theorem dX1_init_69 : decode cX1_init 69 = .ok (.putfield 28, 3) := by decide +kernel
theorem dX1_init_72 : decode cX1_init 72 = .ok (.return_, 1) := by decide +kernel
theorem dX1_has_0 : decode cX1_has 0 = .ok (.iload_n 1, 1) := by decide +kernel
theorem dX1_has_1 : decode cX1_has 1 = .ok (.ifCond .lt 15, 3) := by decide +kernel
theorem dX1_has_4 : decode cX1_has 4 = .ok (.iload_n 1, 1) := by decide +kernel
theorem dX1_has_5 : decode cX1_has 5 = .ok (.aload_n 0, 1) := by decide +kernel
theorem dX1_has_6 : decode cX1_has 6 = .ok (.getfield 28, 3) := by decide +kernel
theorem dX1_has_9 : decode cX1_has 9 = .ok (.if_icmp .ge 7, 3) := by decide +kernel
theorem dX1_has_12 : decode cX1_has 12 = .ok (.iconst 1, 1) := by decide +kernel
theorem dX1_has_13 : decode cX1_has 13 = .ok (.goto 4, 3) := by decide +kernel
theorem dX1_has_16 : decode cX1_has 16 = .ok (.iconst 0, 1) := by decide +kernel
theorem dX1_has_17 : decode cX1_has 17 = .ok (.ireturn, 1) := by decide +kernel
theorem dX1_isFull_0 : decode cX1_isFull 0 = .ok (.aload_n 0, 1) := by decide +kernel
theorem dX1_isFull_1 : decode cX1_isFull 1 = .ok (.getfield 28, 3) := by decide +kernel
theorem dX1_isFull_4 : decode cX1_isFull 4 = .ok (.bipush 8, 2) := by decide +kernel
theorem dX1_isFull_6 : decode cX1_isFull 6 = .ok (.if_icmp .lt 7, 3) := by decide +kernel
theorem dX1_isFull_9 : decode cX1_isFull 9 = .ok (.iconst 1, 1) := by decide +kernel
theorem dX1_isFull_10 : decode cX1_isFull 10 = .ok (.goto 4, 3) := by decide +kernel
theorem dX1_isFull_13 : decode cX1_isFull 13 = .ok (.iconst 0, 1) := by decide +kernel
theorem dX1_isFull_14 : decode cX1_isFull 14 = .ok (.ireturn, 1) := by decide +kernel
theorem dX1_add_0 : decode cX1_add 0 = .ok (.aload_n 0, 1) := by decide +kernel
theorem dX1_add_1 : decode cX1_add 1 = .ok (.invokevirtual 32, 3) := by decide +kernel
theorem dX1_add_4 : decode cX1_add 4 = .ok (.ifCond .ne 7, 3) := by decide +kernel
theorem dX1_add_7 : decode cX1_add 7 = .ok (.iload_n 2, 1) := by decide +kernel
theorem dX1_add_8 : decode cX1_add 8 = .ok (.ifCond .gt 5, 3) := by decide +kernel
theorem dX1_add_11 : decode cX1_add 11 = .ok (.iconst (-1), 1) := by decide +kernel
theorem dX1_add_12 : decode cX1_add 12 = .ok (.ireturn, 1) := by decide +kernel
theorem dX1_add_13 : decode cX1_add 13 = .ok (.aload_n 0, 1) := by decide +kernel
theorem dX1_add_14 : decode cX1_add 14 = .ok (.getfield 11, 3) := by decide +kernel
theorem dX1_add_17 : decode cX1_add 17 = .ok (.aload_n 0, 1) := by decide +kernel
theorem dX1_add_18 : decode cX1_add 18 = .ok (.getfield 28, 3) := by decide +kernel
theorem dX1_add_21 : decode cX1_add 21 = .ok (.iload_n 1, 1) := by decide +kernel
theorem dX1_add_22 : decode cX1_add 22 = .ok (.iastore, 1) := by decide +kernel
theorem dX1_add_23 : decode cX1_add 23 = .ok (.aload_n 0, 1) := by decide +kernel
theorem dX1_add_24 : decode cX1_add 24 = .ok (.getfield 15, 3) := by decide +kernel
theorem dX1_add_27 : decode cX1_add 27 = .ok (.aload_n 0, 1) := by decide +kernel
theorem dX1_add_28 : decode cX1_add 28 = .ok (.getfield 28, 3) := by decide +kernel
theorem dX1_add_31 : decode cX1_add 31 = .ok (.aload_n 0, 1) := by decide +kernel
theorem dX1_add_32 : decode cX1_add 32 = .ok (.getfield 15, 3) := by decide +kernel
theorem dX1_add_35 : decode cX1_add 35 = .ok (.iload_n 1, 1) := by decide +kernel
theorem dX1_add_36 : decode cX1_add 36 = .ok (.invokestatic 36, 3) := by decide +kernel
theorem dX1_add_39 : decode cX1_add 39 = .ok (.iload_n 2, 1) := by decide +kernel
theorem dX1_add_40 : decode cX1_add 40 = .ok (.idiv, 1) := by decide +kernel
theorem dX1_add_41 : decode cX1_add 41 = .ok (.iastore, 1) := by decide +kernel
theorem dX1_add_42 : decode cX1_add 42 = .ok (.aload_n 0, 1) := by decide +kernel
theorem dX1_add_43 : decode cX1_add 43 = .ok (.getfield 18, 3) := by decide +kernel
theorem dX1_add_46 : decode cX1_add 46 = .ok (.aload_n 0, 1) := by decide +kernel
theorem dX1_add_47 : decode cX1_add 47 = .ok (.getfield 28, 3) := by decide +kernel
theorem dX1_add_50 : decode cX1_add 50 = .ok (.iload_n 3, 1) := by decide +kernel
theorem dX1_add_51 : decode cX1_add 51 = .ok (.iastore, 1) := by decide +kernel
theorem dX1_add_52 : decode cX1_add 52 = .ok (.aload_n 0, 1) := by decide +kernel
theorem dX1_add_53 : decode cX1_add 53 = .ok (.getfield 21, 3) := by decide +kernel
theorem dX1_add_56 : decode cX1_add 56 = .ok (.aload_n 0, 1) := by decide +kernel
theorem dX1_add_57 : decode cX1_add 57 = .ok (.getfield 28, 3) := by decide +kernel
theorem dX1_add_60 : decode cX1_add 60 = .ok (.iconst 0, 1) := by decide +kernel
theorem dX1_add_61 : decode cX1_add 61 = .ok (.iastore, 1) := by decide +kernel
theorem dX1_add_62 : decode cX1_add 62 = .ok (.aload_n 0, 1) := by decide +kernel
theorem dX1_add_63 : decode cX1_add 63 = .ok (.dup, 1) := by decide +kernel
theorem dX1_add_64 : decode cX1_add 64 = .ok (.getfield 28, 3) := by decide +kernel
theorem dX1_add_67 : decode cX1_add 67 = .ok (.iconst 1, 1) := by decide +kernel
theorem dX1_add_68 : decode cX1_add 68 = .ok (.iadd, 1) := by decide +kernel
theorem dX1_add_69 : decode cX1_add 69 = .ok (.putfield 28, 3) := by decide +kernel
theorem dX1_add_72 : decode cX1_add 72 = .ok (.aload_n 0, 1) := by decide +kernel
theorem dX1_add_73 : decode cX1_add 73 = .ok (.getfield 28, 3) := by decide +kernel
theorem dX1_add_76 : decode cX1_add 76 = .ok (.iconst 1, 1) := by decide +kernel
theorem dX1_add_77 : decode cX1_add 77 = .ok (.isub, 1) := by decide +kernel
theorem dX1_add_78 : decode cX1_add 78 = .ok (.ireturn, 1) := by decide +kernel
theorem dX1_usesOf_0 : decode cX1_usesOf 0 = .ok (.aload_n 0, 1) := by decide +kernel
theorem dX1_usesOf_1 : decode cX1_usesOf 1 = .ok (.getfield 21, 3) := by decide +kernel
theorem dX1_usesOf_4 : decode cX1_usesOf 4 = .ok (.iload_n 1, 1) := by decide +kernel
theorem dX1_usesOf_5 : decode cX1_usesOf 5 = .ok (.invokestatic 36, 3) := by decide +kernel
theorem dX1_usesOf_8 : decode cX1_usesOf 8 = .ok (.ireturn, 1) := by decide +kernel
theorem dX1_changeUses_0 : decode cX1_changeUses 0 = .ok (.aload_n 0, 1) := by decide +kernel
theorem dX1_changeUses_1 : decode cX1_changeUses 1 = .ok (.getfield 21, 3) := by decide +kernel
theorem dX1_changeUses_4 : decode cX1_changeUses 4 = .ok (.iload_n 1, 1) := by decide +kernel
theorem dX1_changeUses_5 : decode cX1_changeUses 5 = .ok (.aload_n 0, 1) := by decide +kernel
theorem dX1_changeUses_6 : decode cX1_changeUses 6 = .ok (.iload_n 1, 1) := by decide +kernel
theorem dX1_changeUses_7 : decode cX1_changeUses 7 = .ok (.invokevirtual 40, 3) := by decide +kernel
theorem dX1_changeUses_10 : decode cX1_changeUses 10 = .ok (.iload_n 2, 1) := by decide +kernel
theorem dX1_changeUses_11 : decode cX1_changeUses 11 = .ok (.iadd, 1) := by decide +kernel
theorem dX1_changeUses_12 : decode cX1_changeUses 12 = .ok (.invokestatic 44, 3) := by decide +kernel
theorem dX1_changeUses_15 : decode cX1_changeUses 15 = .ok (.pop, 1) := by decide +kernel
theorem dX1_changeUses_16 : decode cX1_changeUses 16 = .ok (.aload_n 0, 1) := by decide +kernel
theorem dX1_changeUses_17 : decode cX1_changeUses 17 = .ok (.iload_n 1, 1) := by decide +kernel
theorem dX1_changeUses_18 : decode cX1_changeUses 18 = .ok (.invokevirtual 40, 3) := by decide +kernel
theorem dX1_changeUses_21 : decode cX1_changeUses 21 = .ok (.ireturn, 1) := by decide +kernel
theorem dX1_frequencyOf_0 : decode cX1_frequencyOf 0 = .ok (.aload_n 0, 1) := by decide +kernel
theorem dX1_frequencyOf_1 : decode cX1_frequencyOf 1 = .ok (.getfield 15, 3) := by decide +kernel
theorem dX1_frequencyOf_4 : decode cX1_frequencyOf 4 = .ok (.iload_n 1, 1) := by decide +kernel
theorem dX1_frequencyOf_5 : decode cX1_frequencyOf 5 = .ok (.invokestatic 36, 3) := by decide +kernel
theorem dX1_frequencyOf_8 : decode cX1_frequencyOf 8 = .ok (.ireturn, 1) := by decide +kernel
theorem dX1_isRunning_0 : decode cX1_isRunning 0 = .ok (.aload_n 0, 1) := by decide +kernel
theorem dX1_isRunning_1 : decode cX1_isRunning 1 = .ok (.invokevirtual 48, 3) := by decide +kernel
theorem dX1_isRunning_4 : decode cX1_isRunning 4 = .ok (.aload_n 0, 1) := by decide +kernel
theorem dX1_isRunning_5 : decode cX1_isRunning 5 = .ok (.iload_n 1, 1) := by decide +kernel
theorem dX1_isRunning_6 : decode cX1_isRunning 6 = .ok (.invokevirtual 51, 3) := by decide +kernel
theorem dX1_isRunning_9 : decode cX1_isRunning 9 = .ok (.ifCond .eq 16, 3) := by decide +kernel
theorem dX1_isRunning_12 : decode cX1_isRunning 12 = .ok (.aload_n 0, 1) := by decide +kernel
theorem dX1_isRunning_13 : decode cX1_isRunning 13 = .ok (.getfield 24, 3) := by decide +kernel
theorem dX1_isRunning_16 : decode cX1_isRunning 16 = .ok (.iload_n 1, 1) := by decide +kernel
theorem dX1_isRunning_17 : decode cX1_isRunning 17 = .ok (.baload, 1) := by decide +kernel
theorem dX1_isRunning_18 : decode cX1_isRunning 18 = .ok (.ifCond .eq 7, 3) := by decide +kernel
theorem dX1_isRunning_21 : decode cX1_isRunning 21 = .ok (.iconst 1, 1) := by decide +kernel
theorem dX1_isRunning_22 : decode cX1_isRunning 22 = .ok (.goto 4, 3) := by decide +kernel
theorem dX1_isRunning_25 : decode cX1_isRunning 25 = .ok (.iconst 0, 1) := by decide +kernel
theorem dX1_isRunning_26 : decode cX1_isRunning 26 = .ok (.ireturn, 1) := by decide +kernel
theorem dX1_leastDeepest_0 : decode cX1_leastDeepest 0 = .ok (.aload_n 0, 1) := by decide +kernel
theorem dX1_leastDeepest_1 : decode cX1_leastDeepest 1 = .ok (.invokevirtual 48, 3) := by decide +kernel
theorem dX1_leastDeepest_4 : decode cX1_leastDeepest 4 = .ok (.iconst 3, 1) := by decide +kernel
theorem dX1_leastDeepest_5 : decode cX1_leastDeepest 5 = .ok (.istore_n 1, 1) := by decide +kernel
theorem dX1_leastDeepest_6 : decode cX1_leastDeepest 6 = .ok (.iconst 0, 1) := by decide +kernel
theorem dX1_leastDeepest_7 : decode cX1_leastDeepest 7 = .ok (.istore_n 2, 1) := by decide +kernel
theorem dX1_leastDeepest_8 : decode cX1_leastDeepest 8 = .ok (.iload_n 2, 1) := by decide +kernel
theorem dX1_leastDeepest_9 : decode cX1_leastDeepest 9 = .ok (.aload_n 0, 1) := by decide +kernel
theorem dX1_leastDeepest_10 : decode cX1_leastDeepest 10 = .ok (.getfield 28, 3) := by decide +kernel
theorem dX1_leastDeepest_13 : decode cX1_leastDeepest 13 = .ok (.if_icmp .ge 29, 3) := by decide +kernel
theorem dX1_leastDeepest_16 : decode cX1_leastDeepest 16 = .ok (.aload_n 0, 1) := by decide +kernel
theorem dX1_leastDeepest_17 : decode cX1_leastDeepest 17 = .ok (.getfield 24, 3) := by decide +kernel
theorem dX1_leastDeepest_20 : decode cX1_leastDeepest 20 = .ok (.iload_n 2, 1) := by decide +kernel
theorem dX1_leastDeepest_21 : decode cX1_leastDeepest 21 = .ok (.baload, 1) := by decide +kernel
theorem dX1_leastDeepest_22 : decode cX1_leastDeepest 22 = .ok (.ifCond .eq 14, 3) := by decide +kernel
theorem dX1_leastDeepest_25 : decode cX1_leastDeepest 25 = .ok (.iload_n 1, 1) := by decide +kernel
theorem dX1_leastDeepest_26 : decode cX1_leastDeepest 26 = .ok (.aload_n 0, 1) := by decide +kernel
theorem dX1_leastDeepest_27 : decode cX1_leastDeepest 27 = .ok (.getfield 18, 3) := by decide +kernel
theorem dX1_leastDeepest_30 : decode cX1_leastDeepest 30 = .ok (.iload_n 2, 1) := by decide +kernel
theorem dX1_leastDeepest_31 : decode cX1_leastDeepest 31 = .ok (.iaload, 1) := by decide +kernel
theorem dX1_leastDeepest_32 : decode cX1_leastDeepest 32 = .ok (.invokestatic 55, 3) := by decide +kernel
theorem dX1_leastDeepest_35 : decode cX1_leastDeepest 35 = .ok (.istore_n 1, 1) := by decide +kernel
theorem dX1_leastDeepest_36 : decode cX1_leastDeepest 36 = .ok (.iinc 2 1, 3) := by decide +kernel
theorem dX1_leastDeepest_39 : decode cX1_leastDeepest 39 = .ok (.goto (-31), 3) := by decide +kernel
theorem dX1_leastDeepest_42 : decode cX1_leastDeepest 42 = .ok (.iload_n 1, 1) := by decide +kernel
theorem dX1_leastDeepest_43 : decode cX1_leastDeepest 43 = .ok (.ireturn, 1) := by decide +kernel
theorem dX1_markRunning_0 : decode cX1_markRunning 0 = .ok (.iconst 0, 1) := by decide +kernel
theorem dX1_markRunning_1 : decode cX1_markRunning 1 = .ok (.istore_n 1, 1) := by decide +kernel
theorem dX1_markRunning_2 : decode cX1_markRunning 2 = .ok (.iload_n 1, 1) := by decide +kernel
theorem dX1_markRunning_3 : decode cX1_markRunning 3 = .ok (.aload_n 0, 1) := by decide +kernel
theorem dX1_markRunning_4 : decode cX1_markRunning 4 = .ok (.getfield 28, 3) := by decide +kernel
theorem dX1_markRunning_7 : decode cX1_markRunning 7 = .ok (.if_icmp .ge 29, 3) := by decide +kernel
theorem dX1_markRunning_10 : decode cX1_markRunning 10 = .ok (.aload_n 0, 1) := by decide +kernel
theorem dX1_markRunning_11 : decode cX1_markRunning 11 = .ok (.getfield 24, 3) := by decide +kernel
theorem dX1_markRunning_14 : decode cX1_markRunning 14 = .ok (.iload_n 1, 1) := by decide +kernel
theorem dX1_markRunning_15 : decode cX1_markRunning 15 = .ok (.aload_n 0, 1) := by decide +kernel
theorem dX1_markRunning_16 : decode cX1_markRunning 16 = .ok (.getfield 21, 3) := by decide +kernel
theorem dX1_markRunning_19 : decode cX1_markRunning 19 = .ok (.iload_n 1, 1) := by decide +kernel
theorem dX1_markRunning_20 : decode cX1_markRunning 20 = .ok (.iaload, 1) := by decide +kernel
theorem dX1_markRunning_21 : decode cX1_markRunning 21 = .ok (.ifCond .le 7, 3) := by decide +kernel
theorem dX1_markRunning_24 : decode cX1_markRunning 24 = .ok (.iconst 1, 1) := by decide +kernel
theorem dX1_markRunning_25 : decode cX1_markRunning 25 = .ok (.goto 4, 3) := by decide +kernel
theorem dX1_markRunning_28 : decode cX1_markRunning 28 = .ok (.iconst 0, 1) := by decide +kernel
theorem dX1_markRunning_29 : decode cX1_markRunning 29 = .ok (.bastore, 1) := by decide +kernel
theorem dX1_markRunning_30 : decode cX1_markRunning 30 = .ok (.iinc 1 1, 3) := by decide +kernel
theorem dX1_markRunning_33 : decode cX1_markRunning 33 = .ok (.goto (-31), 3) := by decide +kernel
theorem dX1_markRunning_36 : decode cX1_markRunning 36 = .ok (.aload_n 0, 1) := by decide +kernel
theorem dX1_markRunning_37 : decode cX1_markRunning 37 = .ok (.getfield 28, 3) := by decide +kernel
theorem dX1_markRunning_40 : decode cX1_markRunning 40 = .ok (.iconst 1, 1) := by decide +kernel
theorem dX1_markRunning_41 : decode cX1_markRunning 41 = .ok (.isub, 1) := by decide +kernel
theorem dX1_markRunning_42 : decode cX1_markRunning 42 = .ok (.istore_n 1, 1) := by decide +kernel
theorem dX1_markRunning_43 : decode cX1_markRunning 43 = .ok (.iload_n 1, 1) := by decide +kernel
theorem dX1_markRunning_44 : decode cX1_markRunning 44 = .ok (.ifCond .le 43, 3) := by decide +kernel
theorem dX1_markRunning_47 : decode cX1_markRunning 47 = .ok (.aload_n 0, 1) := by decide +kernel
theorem dX1_markRunning_48 : decode cX1_markRunning 48 = .ok (.getfield 24, 3) := by decide +kernel
theorem dX1_markRunning_51 : decode cX1_markRunning 51 = .ok (.iload_n 1, 1) := by decide +kernel
theorem dX1_markRunning_52 : decode cX1_markRunning 52 = .ok (.baload, 1) := by decide +kernel
theorem dX1_markRunning_53 : decode cX1_markRunning 53 = .ok (.ifCond .eq 28, 3) := by decide +kernel
theorem dX1_markRunning_56 : decode cX1_markRunning 56 = .ok (.aload_n 0, 1) := by decide +kernel
theorem dX1_markRunning_57 : decode cX1_markRunning 57 = .ok (.aload_n 0, 1) := by decide +kernel
theorem dX1_markRunning_58 : decode cX1_markRunning 58 = .ok (.getfield 11, 3) := by decide +kernel
theorem dX1_markRunning_61 : decode cX1_markRunning 61 = .ok (.iload_n 1, 1) := by decide +kernel
theorem dX1_markRunning_62 : decode cX1_markRunning 62 = .ok (.iaload, 1) := by decide +kernel
theorem dX1_markRunning_63 : decode cX1_markRunning 63 = .ok (.invokevirtual 51, 3) := by decide +kernel
theorem dX1_markRunning_66 : decode cX1_markRunning 66 = .ok (.ifCond .eq 15, 3) := by decide +kernel
theorem dX1_markRunning_69 : decode cX1_markRunning 69 = .ok (.aload_n 0, 1) := by decide +kernel
theorem dX1_markRunning_70 : decode cX1_markRunning 70 = .ok (.getfield 24, 3) := by decide +kernel
theorem dX1_markRunning_73 : decode cX1_markRunning 73 = .ok (.aload_n 0, 1) := by decide +kernel
theorem dX1_markRunning_74 : decode cX1_markRunning 74 = .ok (.getfield 11, 3) := by decide +kernel
theorem dX1_markRunning_77 : decode cX1_markRunning 77 = .ok (.iload_n 1, 1) := by decide +kernel
theorem dX1_markRunning_78 : decode cX1_markRunning 78 = .ok (.iaload, 1) := by decide +kernel
theorem dX1_markRunning_79 : decode cX1_markRunning 79 = .ok (.iconst 1, 1) := by decide +kernel
theorem dX1_markRunning_80 : decode cX1_markRunning 80 = .ok (.bastore, 1) := by decide +kernel
theorem dX1_markRunning_81 : decode cX1_markRunning 81 = .ok (.iinc 1 (-1), 3) := by decide +kernel
theorem dX1_markRunning_84 : decode cX1_markRunning 84 = .ok (.goto (-41), 3) := by decide +kernel
theorem dX1_markRunning_87 : decode cX1_markRunning 87 = .ok (.return_, 1) := by decide +kernel
theorem dX2_init_0 : decode cX2_init 0 = .ok (.aload_n 0, 1) := by decide +kernel
theorem dX2_init_1 : decode cX2_init 1 = .ok (.invokespecial 3, 3) := by decide +kernel
theorem dX2_init_4 : decode cX2_init 4 = .ok (.aload_n 0, 1) := by decide +kernel
theorem dX2_init_5 : decode cX2_init 5 = .ok (.iconst 4, 1) := by decide +kernel
theorem dX2_init_6 : decode cX2_init 6 = .ok (.newarray .int, 2) := by decide +kernel
theorem dX2_init_8 : decode cX2_init 8 = .ok (.putfield 11, 3) := by decide +kernel
theorem dX2_init_11 : decode cX2_init 11 = .ok (.aload_n 0, 1) := by decide +kernel
theorem dX2_init_12 : decode cX2_init 12 = .ok (.iconst 0, 1) := by decide +kernel
theorem dX2_init_13 : decode cX2_init 13 = .ok (.putfield 15, 3) := by decide +kernel
theorem dX2_init_16 : decode cX2_init 16 = .ok (.return_, 1) := by decide +kernel
theorem dX2_remember_0 : decode cX2_remember 0 = .ok (.iconst 3, 1) := by decide +kernel
theorem dX2_remember_1 : decode cX2_remember 1 = .ok (.istore_n 2, 1) := by decide +kernel
theorem dX2_remember_2 : decode cX2_remember 2 = .ok (.iload_n 2, 1) := by decide +kernel
theorem dX2_remember_3 : decode cX2_remember 3 = .ok (.ifCond .le 23, 3) := by decide +kernel
theorem dX2_remember_6 : decode cX2_remember 6 = .ok (.aload_n 0, 1) := by decide +kernel
theorem dX2_remember_7 : decode cX2_remember 7 = .ok (.getfield 11, 3) := by decide +kernel
theorem dX2_remember_10 : decode cX2_remember 10 = .ok (.iload_n 2, 1) := by decide +kernel
theorem dX2_remember_11 : decode cX2_remember 11 = .ok (.aload_n 0, 1) := by decide +kernel
theorem dX2_remember_12 : decode cX2_remember 12 = .ok (.getfield 11, 3) := by decide +kernel
theorem dX2_remember_15 : decode cX2_remember 15 = .ok (.iload_n 2, 1) := by decide +kernel
theorem dX2_remember_16 : decode cX2_remember 16 = .ok (.iconst 1, 1) := by decide +kernel
theorem dX2_remember_17 : decode cX2_remember 17 = .ok (.isub, 1) := by decide +kernel
theorem dX2_remember_18 : decode cX2_remember 18 = .ok (.iaload, 1) := by decide +kernel
theorem dX2_remember_19 : decode cX2_remember 19 = .ok (.iastore, 1) := by decide +kernel
theorem dX2_remember_20 : decode cX2_remember 20 = .ok (.iinc 2 (-1), 3) := by decide +kernel
theorem dX2_remember_23 : decode cX2_remember 23 = .ok (.goto (-21), 3) := by decide +kernel
theorem dX2_remember_26 : decode cX2_remember 26 = .ok (.aload_n 0, 1) := by decide +kernel
theorem dX2_remember_27 : decode cX2_remember 27 = .ok (.getfield 11, 3) := by decide +kernel
theorem dX2_remember_30 : decode cX2_remember 30 = .ok (.iconst 0, 1) := by decide +kernel
theorem dX2_remember_31 : decode cX2_remember 31 = .ok (.iload_n 1, 1) := by decide +kernel
theorem dX2_remember_32 : decode cX2_remember 32 = .ok (.iastore, 1) := by decide +kernel
theorem dX2_remember_33 : decode cX2_remember 33 = .ok (.aload_n 0, 1) := by decide +kernel
theorem dX2_remember_34 : decode cX2_remember 34 = .ok (.aload_n 0, 1) := by decide +kernel
theorem dX2_remember_35 : decode cX2_remember 35 = .ok (.getfield 15, 3) := by decide +kernel
theorem dX2_remember_38 : decode cX2_remember 38 = .ok (.iconst 1, 1) := by decide +kernel
theorem dX2_remember_39 : decode cX2_remember 39 = .ok (.iadd, 1) := by decide +kernel
theorem dX2_remember_40 : decode cX2_remember 40 = .ok (.iconst 4, 1) := by decide +kernel
theorem dX2_remember_41 : decode cX2_remember 41 = .ok (.invokestatic 19, 3) := by decide +kernel
theorem dX2_remember_44 : decode cX2_remember 44 = .ok (.putfield 15, 3) := by decide +kernel
theorem dX2_remember_47 : decode cX2_remember 47 = .ok (.return_, 1) := by decide +kernel
theorem dX2_mean_0 : decode cX2_mean 0 = .ok (.aload_n 0, 1) := by decide +kernel
theorem dX2_mean_1 : decode cX2_mean 1 = .ok (.getfield 15, 3) := by decide +kernel
theorem dX2_mean_4 : decode cX2_mean 4 = .ok (.ifCond .gt 6, 3) := by decide +kernel
theorem dX2_mean_7 : decode cX2_mean 7 = .ok (.ldc 25, 2) := by decide +kernel
theorem dX2_mean_9 : decode cX2_mean 9 = .ok (.ireturn, 1) := by decide +kernel
theorem dX2_mean_10 : decode cX2_mean 10 = .ok (.iconst 0, 1) := by decide +kernel
theorem dX2_mean_11 : decode cX2_mean 11 = .ok (.istore_n 1, 1) := by decide +kernel
theorem dX2_mean_12 : decode cX2_mean 12 = .ok (.iconst 0, 1) := by decide +kernel
theorem dX2_mean_13 : decode cX2_mean 13 = .ok (.istore_n 2, 1) := by decide +kernel
theorem dX2_mean_14 : decode cX2_mean 14 = .ok (.iload_n 2, 1) := by decide +kernel
theorem dX2_mean_15 : decode cX2_mean 15 = .ok (.aload_n 0, 1) := by decide +kernel
theorem dX2_mean_16 : decode cX2_mean 16 = .ok (.getfield 15, 3) := by decide +kernel
theorem dX2_mean_19 : decode cX2_mean 19 = .ok (.if_icmp .ge 18, 3) := by decide +kernel
theorem dX2_mean_22 : decode cX2_mean 22 = .ok (.iload_n 1, 1) := by decide +kernel
theorem dX2_mean_23 : decode cX2_mean 23 = .ok (.aload_n 0, 1) := by decide +kernel
theorem dX2_mean_24 : decode cX2_mean 24 = .ok (.getfield 11, 3) := by decide +kernel
theorem dX2_mean_27 : decode cX2_mean 27 = .ok (.iload_n 2, 1) := by decide +kernel
theorem dX2_mean_28 : decode cX2_mean 28 = .ok (.iaload, 1) := by decide +kernel
theorem dX2_mean_29 : decode cX2_mean 29 = .ok (.iadd, 1) := by decide +kernel
theorem dX2_mean_30 : decode cX2_mean 30 = .ok (.istore_n 1, 1) := by decide +kernel
theorem dX2_mean_31 : decode cX2_mean 31 = .ok (.iinc 2 1, 3) := by decide +kernel
theorem dX2_mean_34 : decode cX2_mean 34 = .ok (.goto (-20), 3) := by decide +kernel
theorem dX2_mean_37 : decode cX2_mean 37 = .ok (.iload_n 1, 1) := by decide +kernel
theorem dX2_mean_38 : decode cX2_mean 38 = .ok (.aload_n 0, 1) := by decide +kernel
theorem dX2_mean_39 : decode cX2_mean 39 = .ok (.getfield 15, 3) := by decide +kernel
theorem dX2_mean_42 : decode cX2_mean 42 = .ok (.idiv, 1) := by decide +kernel
theorem dX2_mean_43 : decode cX2_mean 43 = .ok (.ireturn, 1) := by decide +kernel
theorem dX3_init_0 : decode cX3_init 0 = .ok (.aload_n 0, 1) := by decide +kernel
theorem dX3_init_1 : decode cX3_init 1 = .ok (.invokespecial 3, 3) := by decide +kernel
theorem dX3_init_4 : decode cX3_init 4 = .ok (.aload_n 0, 1) := by decide +kernel
theorem dX3_init_5 : decode cX3_init 5 = .ok (.bipush 12, 2) := by decide +kernel
theorem dX3_init_7 : decode cX3_init 7 = .ok (.newarray .int, 2) := by decide +kernel
theorem dX3_init_9 : decode cX3_init 9 = .ok (.putfield 11, 3) := by decide +kernel
theorem dX3_init_12 : decode cX3_init 12 = .ok (.aload_n 0, 1) := by decide +kernel
theorem dX3_init_13 : decode cX3_init 13 = .ok (.bipush 12, 2) := by decide +kernel
theorem dX3_init_15 : decode cX3_init 15 = .ok (.newarray .int, 2) := by decide +kernel
theorem dX3_init_17 : decode cX3_init 17 = .ok (.putfield 15, 3) := by decide +kernel
theorem dX3_init_20 : decode cX3_init 20 = .ok (.aload_n 0, 1) := by decide +kernel
theorem dX3_init_21 : decode cX3_init 21 = .ok (.bipush 12, 2) := by decide +kernel
theorem dX3_init_23 : decode cX3_init 23 = .ok (.newarray .int, 2) := by decide +kernel
theorem dX3_init_25 : decode cX3_init 25 = .ok (.putfield 18, 3) := by decide +kernel
theorem dX3_init_28 : decode cX3_init 28 = .ok (.aload_n 0, 1) := by decide +kernel
theorem dX3_init_29 : decode cX3_init 29 = .ok (.iconst 0, 1) := by decide +kernel
theorem dX3_init_30 : decode cX3_init 30 = .ok (.putfield 21, 3) := by decide +kernel
theorem dX3_init_33 : decode cX3_init 33 = .ok (.return_, 1) := by decide +kernel
theorem dX3_isFull_0 : decode cX3_isFull 0 = .ok (.aload_n 0, 1) := by decide +kernel
theorem dX3_isFull_1 : decode cX3_isFull 1 = .ok (.getfield 21, 3) := by decide +kernel
theorem dX3_isFull_4 : decode cX3_isFull 4 = .ok (.bipush 12, 2) := by decide +kernel
theorem dX3_isFull_6 : decode cX3_isFull 6 = .ok (.if_icmp .lt 7, 3) := by decide +kernel
theorem dX3_isFull_9 : decode cX3_isFull 9 = .ok (.iconst 1, 1) := by decide +kernel
theorem dX3_isFull_10 : decode cX3_isFull 10 = .ok (.goto 4, 3) := by decide +kernel
theorem dX3_isFull_13 : decode cX3_isFull 13 = .ok (.iconst 0, 1) := by decide +kernel
theorem dX3_isFull_14 : decode cX3_isFull 14 = .ok (.ireturn, 1) := by decide +kernel
theorem dX3_add_0 : decode cX3_add 0 = .ok (.aload_n 0, 1) := by decide +kernel
theorem dX3_add_1 : decode cX3_add 1 = .ok (.invokevirtual 25, 3) := by decide +kernel
theorem dX3_add_4 : decode cX3_add 4 = .ok (.ifCond .eq 8, 3) := by decide +kernel
theorem dX3_add_7 : decode cX3_add 7 = .ok (.aload_n 0, 1) := by decide +kernel
theorem dX3_add_8 : decode cX3_add 8 = .ok (.getfield 21, 3) := by decide +kernel
theorem dX3_add_11 : decode cX3_add 11 = .ok (.ireturn, 1) := by decide +kernel
theorem dX3_add_12 : decode cX3_add 12 = .ok (.aload_n 0, 1) := by decide +kernel
theorem dX3_add_13 : decode cX3_add 13 = .ok (.getfield 11, 3) := by decide +kernel
theorem dX3_add_16 : decode cX3_add 16 = .ok (.aload_n 0, 1) := by decide +kernel
theorem dX3_add_17 : decode cX3_add 17 = .ok (.getfield 21, 3) := by decide +kernel
theorem dX3_add_20 : decode cX3_add 20 = .ok (.iload_n 1, 1) := by decide +kernel
theorem dX3_add_21 : decode cX3_add 21 = .ok (.iastore, 1) := by decide +kernel
theorem dX3_add_22 : decode cX3_add 22 = .ok (.aload_n 0, 1) := by decide +kernel
theorem dX3_add_23 : decode cX3_add 23 = .ok (.getfield 15, 3) := by decide +kernel
theorem dX3_add_26 : decode cX3_add 26 = .ok (.aload_n 0, 1) := by decide +kernel
theorem dX3_add_27 : decode cX3_add 27 = .ok (.getfield 21, 3) := by decide +kernel
theorem dX3_add_30 : decode cX3_add 30 = .ok (.iload_n 2, 1) := by decide +kernel
theorem dX3_add_31 : decode cX3_add 31 = .ok (.iastore, 1) := by decide +kernel
theorem dX3_add_32 : decode cX3_add 32 = .ok (.aload_n 0, 1) := by decide +kernel
theorem dX3_add_33 : decode cX3_add 33 = .ok (.getfield 18, 3) := by decide +kernel
theorem dX3_add_36 : decode cX3_add 36 = .ok (.aload_n 0, 1) := by decide +kernel
theorem dX3_add_37 : decode cX3_add 37 = .ok (.getfield 21, 3) := by decide +kernel
theorem dX3_add_40 : decode cX3_add 40 = .ok (.iload_n 3, 1) := by decide +kernel
theorem dX3_add_41 : decode cX3_add 41 = .ok (.iastore, 1) := by decide +kernel
theorem dX3_add_42 : decode cX3_add 42 = .ok (.aload_n 0, 1) := by decide +kernel
theorem dX3_add_43 : decode cX3_add 43 = .ok (.dup, 1) := by decide +kernel
theorem dX3_add_44 : decode cX3_add 44 = .ok (.getfield 21, 3) := by decide +kernel
theorem dX3_add_47 : decode cX3_add 47 = .ok (.iconst 1, 1) := by decide +kernel
theorem dX3_add_48 : decode cX3_add 48 = .ok (.iadd, 1) := by decide +kernel
theorem dX3_add_49 : decode cX3_add 49 = .ok (.putfield 21, 3) := by decide +kernel
theorem dX3_add_52 : decode cX3_add 52 = .ok (.aload_n 0, 1) := by decide +kernel
theorem dX3_add_53 : decode cX3_add 53 = .ok (.getfield 21, 3) := by decide +kernel
theorem dX3_add_56 : decode cX3_add 56 = .ok (.ireturn, 1) := by decide +kernel
theorem dX3_isAnyDue_0 : decode cX3_isAnyDue 0 = .ok (.iconst 0, 1) := by decide +kernel
theorem dX3_isAnyDue_1 : decode cX3_isAnyDue 1 = .ok (.istore_n 2, 1) := by decide +kernel
theorem dX3_isAnyDue_2 : decode cX3_isAnyDue 2 = .ok (.iload_n 2, 1) := by decide +kernel
theorem dX3_isAnyDue_3 : decode cX3_isAnyDue 3 = .ok (.aload_n 0, 1) := by decide +kernel
theorem dX3_isAnyDue_4 : decode cX3_isAnyDue 4 = .ok (.getfield 21, 3) := by decide +kernel
theorem dX3_isAnyDue_7 : decode cX3_isAnyDue 7 = .ok (.if_icmp .ge 21, 3) := by decide +kernel
theorem dX3_isAnyDue_10 : decode cX3_isAnyDue 10 = .ok (.aload_n 0, 1) := by decide +kernel
theorem dX3_isAnyDue_11 : decode cX3_isAnyDue 11 = .ok (.getfield 11, 3) := by decide +kernel
theorem dX3_isAnyDue_14 : decode cX3_isAnyDue 14 = .ok (.iload_n 2, 1) := by decide +kernel
theorem dX3_isAnyDue_15 : decode cX3_isAnyDue 15 = .ok (.iaload, 1) := by decide +kernel
theorem dX3_isAnyDue_16 : decode cX3_isAnyDue 16 = .ok (.iload_n 1, 1) := by decide +kernel
theorem dX3_isAnyDue_17 : decode cX3_isAnyDue 17 = .ok (.if_icmp .gt 5, 3) := by decide +kernel
theorem dX3_isAnyDue_20 : decode cX3_isAnyDue 20 = .ok (.iconst 1, 1) := by decide +kernel
theorem dX3_isAnyDue_21 : decode cX3_isAnyDue 21 = .ok (.ireturn, 1) := by decide +kernel
theorem dX3_isAnyDue_22 : decode cX3_isAnyDue 22 = .ok (.iinc 2 1, 3) := by decide +kernel
theorem dX3_isAnyDue_25 : decode cX3_isAnyDue 25 = .ok (.goto (-23), 3) := by decide +kernel
theorem dX3_isAnyDue_28 : decode cX3_isAnyDue 28 = .ok (.iconst 0, 1) := by decide +kernel
theorem dX3_isAnyDue_29 : decode cX3_isAnyDue 29 = .ok (.ireturn, 1) := by decide +kernel
theorem dX3_takeDue_0 : decode cX3_takeDue 0 = .ok (.iconst 0, 1) := by decide +kernel
theorem dX3_takeDue_1 : decode cX3_takeDue 1 = .ok (.istore_n 2, 1) := by decide +kernel
theorem dX3_takeDue_2 : decode cX3_takeDue 2 = .ok (.iconst 0, 1) := by decide +kernel
theorem dX3_takeDue_3 : decode cX3_takeDue 3 = .ok (.istore_n 3, 1) := by decide +kernel
theorem dX3_takeDue_4 : decode cX3_takeDue 4 = .ok (.iconst 0, 1) := by decide +kernel
theorem dX3_takeDue_5 : decode cX3_takeDue 5 = .ok (.istore 4, 2) := by decide +kernel
theorem dX3_takeDue_7 : decode cX3_takeDue 7 = .ok (.iload 4, 2) := by decide +kernel
theorem dX3_takeDue_9 : decode cX3_takeDue 9 = .ok (.aload_n 0, 1) := by decide +kernel
theorem dX3_takeDue_10 : decode cX3_takeDue 10 = .ok (.getfield 21, 3) := by decide +kernel
theorem dX3_takeDue_13 : decode cX3_takeDue 13 = .ok (.if_icmp .ge 75, 3) := by decide +kernel
theorem dX3_takeDue_16 : decode cX3_takeDue 16 = .ok (.aload_n 0, 1) := by decide +kernel
theorem dX3_takeDue_17 : decode cX3_takeDue 17 = .ok (.getfield 11, 3) := by decide +kernel
theorem dX3_takeDue_20 : decode cX3_takeDue 20 = .ok (.iload 4, 2) := by decide +kernel
theorem dX3_takeDue_22 : decode cX3_takeDue 22 = .ok (.iaload, 1) := by decide +kernel
theorem dX3_takeDue_23 : decode cX3_takeDue 23 = .ok (.iload_n 1, 1) := by decide +kernel
theorem dX3_takeDue_24 : decode cX3_takeDue 24 = .ok (.if_icmp .gt 16, 3) := by decide +kernel
theorem dX3_takeDue_27 : decode cX3_takeDue 27 = .ok (.iload_n 2, 1) := by decide +kernel
theorem dX3_takeDue_28 : decode cX3_takeDue 28 = .ok (.aload_n 0, 1) := by decide +kernel
theorem dX3_takeDue_29 : decode cX3_takeDue 29 = .ok (.getfield 18, 3) := by decide +kernel
theorem dX3_takeDue_32 : decode cX3_takeDue 32 = .ok (.iload 4, 2) := by decide +kernel
theorem dX3_takeDue_34 : decode cX3_takeDue 34 = .ok (.iaload, 1) := by decide +kernel
theorem dX3_takeDue_35 : decode cX3_takeDue 35 = .ok (.iadd, 1) := by decide +kernel
theorem dX3_takeDue_36 : decode cX3_takeDue 36 = .ok (.istore_n 2, 1) := by decide +kernel
theorem dX3_takeDue_37 : decode cX3_takeDue 37 = .ok (.goto 45, 3) := by decide +kernel
theorem dX3_takeDue_40 : decode cX3_takeDue 40 = .ok (.aload_n 0, 1) := by decide +kernel
theorem dX3_takeDue_41 : decode cX3_takeDue 41 = .ok (.getfield 11, 3) := by decide +kernel
theorem dX3_takeDue_44 : decode cX3_takeDue 44 = .ok (.iload_n 3, 1) := by decide +kernel
theorem dX3_takeDue_45 : decode cX3_takeDue 45 = .ok (.aload_n 0, 1) := by decide +kernel
theorem dX3_takeDue_46 : decode cX3_takeDue 46 = .ok (.getfield 11, 3) := by decide +kernel
theorem dX3_takeDue_49 : decode cX3_takeDue 49 = .ok (.iload 4, 2) := by decide +kernel
theorem dX3_takeDue_51 : decode cX3_takeDue 51 = .ok (.iaload, 1) := by decide +kernel
theorem dX3_takeDue_52 : decode cX3_takeDue 52 = .ok (.iastore, 1) := by decide +kernel
theorem dX3_takeDue_53 : decode cX3_takeDue 53 = .ok (.aload_n 0, 1) := by decide +kernel
theorem dX3_takeDue_54 : decode cX3_takeDue 54 = .ok (.getfield 15, 3) := by decide +kernel
theorem dX3_takeDue_57 : decode cX3_takeDue 57 = .ok (.iload_n 3, 1) := by decide +kernel
theorem dX3_takeDue_58 : decode cX3_takeDue 58 = .ok (.aload_n 0, 1) := by decide +kernel
theorem dX3_takeDue_59 : decode cX3_takeDue 59 = .ok (.getfield 15, 3) := by decide +kernel
theorem dX3_takeDue_62 : decode cX3_takeDue 62 = .ok (.iload 4, 2) := by decide +kernel
theorem dX3_takeDue_64 : decode cX3_takeDue 64 = .ok (.iaload, 1) := by decide +kernel
theorem dX3_takeDue_65 : decode cX3_takeDue 65 = .ok (.iastore, 1) := by decide +kernel
theorem dX3_takeDue_66 : decode cX3_takeDue 66 = .ok (.aload_n 0, 1) := by decide +kernel
theorem dX3_takeDue_67 : decode cX3_takeDue 67 = .ok (.getfield 18, 3) := by decide +kernel
theorem dX3_takeDue_70 : decode cX3_takeDue 70 = .ok (.iload_n 3, 1) := by decide +kernel
theorem dX3_takeDue_71 : decode cX3_takeDue 71 = .ok (.aload_n 0, 1) := by decide +kernel
theorem dX3_takeDue_72 : decode cX3_takeDue 72 = .ok (.getfield 18, 3) := by decide +kernel
theorem dX3_takeDue_75 : decode cX3_takeDue 75 = .ok (.iload 4, 2) := by decide +kernel
theorem dX3_takeDue_77 : decode cX3_takeDue 77 = .ok (.iaload, 1) := by decide +kernel
theorem dX3_takeDue_78 : decode cX3_takeDue 78 = .ok (.iastore, 1) := by decide +kernel
theorem dX3_takeDue_79 : decode cX3_takeDue 79 = .ok (.iinc 3 1, 3) := by decide +kernel
theorem dX3_takeDue_82 : decode cX3_takeDue 82 = .ok (.iinc 4 1, 3) := by decide +kernel
theorem dX3_takeDue_85 : decode cX3_takeDue 85 = .ok (.goto (-78), 3) := by decide +kernel
theorem dX3_takeDue_88 : decode cX3_takeDue 88 = .ok (.aload_n 0, 1) := by decide +kernel
theorem dX3_takeDue_89 : decode cX3_takeDue 89 = .ok (.iload_n 3, 1) := by decide +kernel
theorem dX3_takeDue_90 : decode cX3_takeDue 90 = .ok (.putfield 21, 3) := by decide +kernel
theorem dX3_takeDue_93 : decode cX3_takeDue 93 = .ok (.iload_n 2, 1) := by decide +kernel
theorem dX3_takeDue_94 : decode cX3_takeDue 94 = .ok (.ireturn, 1) := by decide +kernel
theorem dX3_leastLatest_0 : decode cX3_leastLatest 0 = .ok (.iconst (-1), 1) := by decide +kernel
theorem dX3_leastLatest_1 : decode cX3_leastLatest 1 = .ok (.istore_n 3, 1) := by decide +kernel
theorem dX3_leastLatest_2 : decode cX3_leastLatest 2 = .ok (.iconst 0, 1) := by decide +kernel
theorem dX3_leastLatest_3 : decode cX3_leastLatest 3 = .ok (.istore 4, 2) := by decide +kernel
theorem dX3_leastLatest_5 : decode cX3_leastLatest 5 = .ok (.iload 4, 2) := by decide +kernel
theorem dX3_leastLatest_7 : decode cX3_leastLatest 7 = .ok (.aload_n 0, 1) := by decide +kernel
theorem dX3_leastLatest_8 : decode cX3_leastLatest 8 = .ok (.getfield 21, 3) := by decide +kernel
theorem dX3_leastLatest_11 : decode cX3_leastLatest 11 = .ok (.if_icmp .ge 67, 3) := by decide +kernel
theorem dX3_leastLatest_14 : decode cX3_leastLatest 14 = .ok (.aload_n 0, 1) := by decide +kernel
theorem dX3_leastLatest_15 : decode cX3_leastLatest 15 = .ok (.getfield 11, 3) := by decide +kernel
theorem dX3_leastLatest_18 : decode cX3_leastLatest 18 = .ok (.iload 4, 2) := by decide +kernel
theorem dX3_leastLatest_20 : decode cX3_leastLatest 20 = .ok (.iaload, 1) := by decide +kernel
theorem dX3_leastLatest_21 : decode cX3_leastLatest 21 = .ok (.iload_n 1, 1) := by decide +kernel
theorem dX3_leastLatest_22 : decode cX3_leastLatest 22 = .ok (.if_icmp .le 18, 3) := by decide +kernel
theorem dX3_leastLatest_25 : decode cX3_leastLatest 25 = .ok (.aload_n 0, 1) := by decide +kernel
theorem dX3_leastLatest_26 : decode cX3_leastLatest 26 = .ok (.getfield 15, 3) := by decide +kernel
theorem dX3_leastLatest_29 : decode cX3_leastLatest 29 = .ok (.iload 4, 2) := by decide +kernel
theorem dX3_leastLatest_31 : decode cX3_leastLatest 31 = .ok (.iaload, 1) := by decide +kernel
theorem dX3_leastLatest_32 : decode cX3_leastLatest 32 = .ok (.iload_n 2, 1) := by decide +kernel
theorem dX3_leastLatest_33 : decode cX3_leastLatest 33 = .ok (.if_icmp .ge 7, 3) := by decide +kernel
theorem dX3_leastLatest_36 : decode cX3_leastLatest 36 = .ok (.iconst 1, 1) := by decide +kernel
theorem dX3_leastLatest_37 : decode cX3_leastLatest 37 = .ok (.goto 4, 3) := by decide +kernel
theorem dX3_leastLatest_40 : decode cX3_leastLatest 40 = .ok (.iconst 0, 1) := by decide +kernel
theorem dX3_leastLatest_41 : decode cX3_leastLatest 41 = .ok (.istore 5, 2) := by decide +kernel
theorem dX3_leastLatest_43 : decode cX3_leastLatest 43 = .ok (.iload 5, 2) := by decide +kernel
theorem dX3_leastLatest_45 : decode cX3_leastLatest 45 = .ok (.ifCond .eq 27, 3) := by decide +kernel
theorem dX3_leastLatest_48 : decode cX3_leastLatest 48 = .ok (.iload_n 3, 1) := by decide +kernel
theorem dX3_leastLatest_49 : decode cX3_leastLatest 49 = .ok (.iconst (-1), 1) := by decide +kernel
theorem dX3_leastLatest_50 : decode cX3_leastLatest 50 = .ok (.if_icmp .eq 14, 3) := by decide +kernel
theorem dX3_leastLatest_53 : decode cX3_leastLatest 53 = .ok (.aload_n 0, 1) := by decide +kernel
theorem dX3_leastLatest_54 : decode cX3_leastLatest 54 = .ok (.getfield 15, 3) := by decide +kernel
theorem dX3_leastLatest_57 : decode cX3_leastLatest 57 = .ok (.iload 4, 2) := by decide +kernel
theorem dX3_leastLatest_59 : decode cX3_leastLatest 59 = .ok (.iaload, 1) := by decide +kernel
theorem dX3_leastLatest_60 : decode cX3_leastLatest 60 = .ok (.iload_n 3, 1) := by decide +kernel
theorem dX3_leastLatest_61 : decode cX3_leastLatest 61 = .ok (.if_icmp .ge 11, 3) := by decide +kernel
theorem dX3_leastLatest_64 : decode cX3_leastLatest 64 = .ok (.aload_n 0, 1) := by decide +kernel
theorem dX3_leastLatest_65 : decode cX3_leastLatest 65 = .ok (.getfield 15, 3) := by decide +kernel
theorem dX3_leastLatest_68 : decode cX3_leastLatest 68 = .ok (.iload 4, 2) := by decide +kernel
theorem dX3_leastLatest_70 : decode cX3_leastLatest 70 = .ok (.iaload, 1) := by decide +kernel
theorem dX3_leastLatest_71 : decode cX3_leastLatest 71 = .ok (.istore_n 3, 1) := by decide +kernel
theorem dX3_leastLatest_72 : decode cX3_leastLatest 72 = .ok (.iinc 4 1, 3) := by decide +kernel
theorem dX3_leastLatest_75 : decode cX3_leastLatest 75 = .ok (.goto (-70), 3) := by decide +kernel
theorem dX3_leastLatest_78 : decode cX3_leastLatest 78 = .ok (.iload_n 3, 1) := by decide +kernel
theorem dX3_leastLatest_79 : decode cX3_leastLatest 79 = .ok (.ireturn, 1) := by decide +kernel
theorem dX3_greatestDue_0 : decode cX3_greatestDue 0 = .ok (.iconst (-1), 1) := by decide +kernel
theorem dX3_greatestDue_1 : decode cX3_greatestDue 1 = .ok (.istore_n 2, 1) := by decide +kernel
theorem dX3_greatestDue_2 : decode cX3_greatestDue 2 = .ok (.iconst 0, 1) := by decide +kernel
theorem dX3_greatestDue_3 : decode cX3_greatestDue 3 = .ok (.istore_n 3, 1) := by decide +kernel
theorem dX3_greatestDue_4 : decode cX3_greatestDue 4 = .ok (.iload_n 3, 1) := by decide +kernel
theorem dX3_greatestDue_5 : decode cX3_greatestDue 5 = .ok (.aload_n 0, 1) := by decide +kernel
theorem dX3_greatestDue_6 : decode cX3_greatestDue 6 = .ok (.getfield 21, 3) := by decide +kernel
theorem dX3_greatestDue_9 : decode cX3_greatestDue 9 = .ok (.if_icmp .ge 30, 3) := by decide +kernel
theorem dX3_greatestDue_12 : decode cX3_greatestDue 12 = .ok (.aload_n 0, 1) := by decide +kernel
theorem dX3_greatestDue_13 : decode cX3_greatestDue 13 = .ok (.getfield 15, 3) := by decide +kernel
theorem dX3_greatestDue_16 : decode cX3_greatestDue 16 = .ok (.iload_n 3, 1) := by decide +kernel
theorem dX3_greatestDue_17 : decode cX3_greatestDue 17 = .ok (.iaload, 1) := by decide +kernel
theorem dX3_greatestDue_18 : decode cX3_greatestDue 18 = .ok (.iload_n 1, 1) := by decide +kernel
theorem dX3_greatestDue_19 : decode cX3_greatestDue 19 = .ok (.if_icmp .ge 14, 3) := by decide +kernel
theorem dX3_greatestDue_22 : decode cX3_greatestDue 22 = .ok (.iload_n 2, 1) := by decide +kernel
theorem dX3_greatestDue_23 : decode cX3_greatestDue 23 = .ok (.aload_n 0, 1) := by decide +kernel
theorem dX3_greatestDue_24 : decode cX3_greatestDue 24 = .ok (.getfield 11, 3) := by decide +kernel
theorem dX3_greatestDue_27 : decode cX3_greatestDue 27 = .ok (.iload_n 3, 1) := by decide +kernel
theorem dX3_greatestDue_28 : decode cX3_greatestDue 28 = .ok (.iaload, 1) := by decide +kernel
theorem dX3_greatestDue_29 : decode cX3_greatestDue 29 = .ok (.invokestatic 29, 3) := by decide +kernel
theorem dX3_greatestDue_32 : decode cX3_greatestDue 32 = .ok (.istore_n 2, 1) := by decide +kernel
theorem dX3_greatestDue_33 : decode cX3_greatestDue 33 = .ok (.iinc 3 1, 3) := by decide +kernel
theorem dX3_greatestDue_36 : decode cX3_greatestDue 36 = .ok (.goto (-32), 3) := by decide +kernel
theorem dX3_greatestDue_39 : decode cX3_greatestDue 39 = .ok (.iload_n 2, 1) := by decide +kernel
theorem dX3_greatestDue_40 : decode cX3_greatestDue 40 = .ok (.ireturn, 1) := by decide +kernel
theorem dX4_init_0 : decode cX4_init 0 = .ok (.aload_n 0, 1) := by decide +kernel
theorem dX4_init_1 : decode cX4_init 1 = .ok (.invokespecial 3, 3) := by decide +kernel
theorem dX4_init_4 : decode cX4_init 4 = .ok (.aload_n 0, 1) := by decide +kernel
theorem dX4_init_5 : decode cX4_init 5 = .ok (.iconst 4, 1) := by decide +kernel
theorem dX4_init_6 : decode cX4_init 6 = .ok (.newarray .int, 2) := by decide +kernel
theorem dX4_init_8 : decode cX4_init 8 = .ok (.putfield 9, 3) := by decide +kernel
theorem dX4_init_11 : decode cX4_init 11 = .ok (.aload_n 0, 1) := by decide +kernel
theorem dX4_init_12 : decode cX4_init 12 = .ok (.lconst 0, 1) := by decide +kernel
theorem dX4_init_13 : decode cX4_init 13 = .ok (.putfield 15, 3) := by decide +kernel
theorem dX4_init_16 : decode cX4_init 16 = .ok (.aload_n 0, 1) := by decide +kernel
theorem dX4_init_17 : decode cX4_init 17 = .ok (.lconst 0, 1) := by decide +kernel
theorem dX4_init_18 : decode cX4_init 18 = .ok (.putfield 19, 3) := by decide +kernel
theorem dX4_init_21 : decode cX4_init 21 = .ok (.aload_n 0, 1) := by decide +kernel
theorem dX4_init_22 : decode cX4_init 22 = .ok (.iconst 0, 1) := by decide +kernel
theorem dX4_init_23 : decode cX4_init 23 = .ok (.putfield 22, 3) := by decide +kernel
theorem dX4_init_26 : decode cX4_init 26 = .ok (.aload_n 0, 1) := by decide +kernel
theorem dX4_init_27 : decode cX4_init 27 = .ok (.iconst 0, 1) := by decide +kernel
theorem dX4_init_28 : decode cX4_init 28 = .ok (.putfield 26, 3) := by decide +kernel
theorem dX4_init_31 : decode cX4_init 31 = .ok (.aload_n 0, 1) := by decide +kernel
theorem dX4_init_32 : decode cX4_init 32 = .ok (.iconst 0, 1) := by decide +kernel
theorem dX4_init_33 : decode cX4_init 33 = .ok (.putfield 29, 3) := by decide +kernel
theorem dX4_init_36 : decode cX4_init 36 = .ok (.return_, 1) := by decide +kernel
theorem dX4_spend_0 : decode cX4_spend 0 = .ok (.aload_n 0, 1) := by decide +kernel
theorem dX4_spend_1 : decode cX4_spend 1 = .ok (.dup, 1) := by decide +kernel
theorem dX4_spend_2 : decode cX4_spend 2 = .ok (.getfield 15, 3) := by decide +kernel
theorem dX4_spend_5 : decode cX4_spend 5 = .ok (.lload_n 1, 1) := by decide +kernel
theorem dX4_spend_6 : decode cX4_spend 6 = .ok (.ladd, 1) := by decide +kernel
theorem dX4_spend_7 : decode cX4_spend 7 = .ok (.putfield 15, 3) := by decide +kernel
theorem dX4_spend_10 : decode cX4_spend 10 = .ok (.aload_n 0, 1) := by decide +kernel
theorem dX4_spend_11 : decode cX4_spend 11 = .ok (.dup, 1) := by decide +kernel
theorem dX4_spend_12 : decode cX4_spend 12 = .ok (.getfield 19, 3) := by decide +kernel
theorem dX4_spend_15 : decode cX4_spend 15 = .ok (.lload_n 1, 1) := by decide +kernel
theorem dX4_spend_16 : decode cX4_spend 16 = .ok (.ladd, 1) := by decide +kernel
theorem dX4_spend_17 : decode cX4_spend 17 = .ok (.putfield 19, 3) := by decide +kernel
theorem dX4_spend_20 : decode cX4_spend 20 = .ok (.return_, 1) := by decide +kernel
theorem dX4_countTick_0 : decode cX4_countTick 0 = .ok (.aload_n 0, 1) := by decide +kernel
theorem dX4_countTick_1 : decode cX4_countTick 1 = .ok (.getfield 9, 3) := by decide +kernel
theorem dX4_countTick_4 : decode cX4_countTick 4 = .ok (.iload_n 1, 1) := by decide +kernel
theorem dX4_countTick_5 : decode cX4_countTick 5 = .ok (.aload_n 0, 1) := by decide +kernel
theorem dX4_countTick_6 : decode cX4_countTick 6 = .ok (.getfield 9, 3) := by decide +kernel
theorem dX4_countTick_9 : decode cX4_countTick 9 = .ok (.iload_n 1, 1) := by decide +kernel
theorem dX4_countTick_10 : decode cX4_countTick 10 = .ok (.invokestatic 32, 3) := by decide +kernel
theorem dX4_countTick_13 : decode cX4_countTick 13 = .ok (.iconst 1, 1) := by decide +kernel
theorem dX4_countTick_14 : decode cX4_countTick 14 = .ok (.iadd, 1) := by decide +kernel
theorem dX4_countTick_15 : decode cX4_countTick 15 = .ok (.invokestatic 36, 3) := by decide +kernel
theorem dX4_countTick_18 : decode cX4_countTick 18 = .ok (.pop, 1) := by decide +kernel
theorem dX4_countTick_19 : decode cX4_countTick 19 = .ok (.return_, 1) := by decide +kernel
theorem dX4_takeUnpaid_0 : decode cX4_takeUnpaid 0 = .ok (.aload_n 0, 1) := by decide +kernel
theorem dX4_takeUnpaid_1 : decode cX4_takeUnpaid 1 = .ok (.getfield 19, 3) := by decide +kernel
theorem dX4_takeUnpaid_4 : decode cX4_takeUnpaid 4 = .ok (.lstore_n 1, 1) := by decide +kernel
theorem dX4_takeUnpaid_5 : decode cX4_takeUnpaid 5 = .ok (.aload_n 0, 1) := by decide +kernel
theorem dX4_takeUnpaid_6 : decode cX4_takeUnpaid 6 = .ok (.lconst 0, 1) := by decide +kernel
theorem dX4_takeUnpaid_7 : decode cX4_takeUnpaid 7 = .ok (.putfield 19, 3) := by decide +kernel
theorem dX4_takeUnpaid_10 : decode cX4_takeUnpaid 10 = .ok (.lload_n 1, 1) := by decide +kernel
theorem dX4_takeUnpaid_11 : decode cX4_takeUnpaid 11 = .ok (.lreturn, 1) := by decide +kernel
theorem dX5_init_0 : decode cX5_init 0 = .ok (.aload_n 0, 1) := by decide +kernel
theorem dX5_init_1 : decode cX5_init 1 = .ok (.invokespecial 3, 3) := by decide +kernel
theorem dX5_init_4 : decode cX5_init 4 = .ok (.aload_n 0, 1) := by decide +kernel
theorem dX5_init_5 : decode cX5_init 5 = .ok (.sipush 402, 3) := by decide +kernel
theorem dX5_init_8 : decode cX5_init 8 = .ok (.newarray .long, 2) := by decide +kernel
theorem dX5_init_10 : decode cX5_init 10 = .ok (.putfield 11, 3) := by decide +kernel
theorem dX5_init_13 : decode cX5_init 13 = .ok (.aload_n 0, 1) := by decide +kernel
theorem dX5_init_14 : decode cX5_init 14 = .ok (.sipush 402, 3) := by decide +kernel
theorem dX5_init_17 : decode cX5_init 17 = .ok (.newarray .long, 2) := by decide +kernel
theorem dX5_init_19 : decode cX5_init 19 = .ok (.putfield 15, 3) := by decide +kernel
theorem dX5_init_22 : decode cX5_init 22 = .ok (.return_, 1) := by decide +kernel
theorem dX5_countPlanned_0 : decode cX5_countPlanned 0 = .ok (.iconst 0, 1) := by decide +kernel
theorem dX5_countPlanned_1 : decode cX5_countPlanned 1 = .ok (.istore_n 3, 1) := by decide +kernel
theorem dX5_countPlanned_2 : decode cX5_countPlanned 2 = .ok (.aload_n 1, 1) := by decide +kernel
theorem dX5_countPlanned_3 : decode cX5_countPlanned 3 = .ok (.iconst (-1), 1) := by decide +kernel
theorem dX5_countPlanned_4 : decode cX5_countPlanned 4 = .ok (.iload_n 2, 1) := by decide +kernel
theorem dX5_countPlanned_5 : decode cX5_countPlanned 5 = .ok (.invokevirtual 18, 3) := by decide +kernel
theorem dX5_countPlanned_8 : decode cX5_countPlanned 8 = .ok (.istore 4, 2) := by decide +kernel
theorem dX5_countPlanned_10 : decode cX5_countPlanned 10 = .ok (.iload 4, 2) := by decide +kernel
theorem dX5_countPlanned_12 : decode cX5_countPlanned 12 = .ok (.iconst (-1), 1) := by decide +kernel
theorem dX5_countPlanned_13 : decode cX5_countPlanned 13 = .ok (.if_icmp .eq 26, 3) := by decide +kernel
theorem dX5_countPlanned_16 : decode cX5_countPlanned 16 = .ok (.iload_n 3, 1) := by decide +kernel
theorem dX5_countPlanned_17 : decode cX5_countPlanned 17 = .ok (.aload_n 1, 1) := by decide +kernel
theorem dX5_countPlanned_18 : decode cX5_countPlanned 18 = .ok (.getfield 24, 3) := by decide +kernel
theorem dX5_countPlanned_21 : decode cX5_countPlanned 21 = .ok (.if_icmp .ge 18, 3) := by decide +kernel
theorem dX5_countPlanned_24 : decode cX5_countPlanned 24 = .ok (.iinc 3 1, 3) := by decide +kernel
theorem dX5_countPlanned_27 : decode cX5_countPlanned 27 = .ok (.aload_n 1, 1) := by decide +kernel
theorem dX5_countPlanned_28 : decode cX5_countPlanned 28 = .ok (.iload 4, 2) := by decide +kernel
theorem dX5_countPlanned_30 : decode cX5_countPlanned 30 = .ok (.iload_n 2, 1) := by decide +kernel
theorem dX5_countPlanned_31 : decode cX5_countPlanned 31 = .ok (.invokevirtual 18, 3) := by decide +kernel
theorem dX5_countPlanned_34 : decode cX5_countPlanned 34 = .ok (.istore 4, 2) := by decide +kernel
theorem dX5_countPlanned_36 : decode cX5_countPlanned 36 = .ok (.goto (-26), 3) := by decide +kernel
theorem dX5_countPlanned_39 : decode cX5_countPlanned 39 = .ok (.iload_n 3, 1) := by decide +kernel
theorem dX5_countPlanned_40 : decode cX5_countPlanned 40 = .ok (.ireturn, 1) := by decide +kernel
theorem dX5_sumPlanned_0 : decode cX5_sumPlanned 0 = .ok (.lconst 0, 1) := by decide +kernel
theorem dX5_sumPlanned_1 : decode cX5_sumPlanned 1 = .ok (.lstore 6, 2) := by decide +kernel
theorem dX5_sumPlanned_3 : decode cX5_sumPlanned 3 = .ok (.iload_n 2, 1) := by decide +kernel
theorem dX5_sumPlanned_4 : decode cX5_sumPlanned 4 = .ok (.istore 8, 2) := by decide +kernel
theorem dX5_sumPlanned_6 : decode cX5_sumPlanned 6 = .ok (.aload_n 0, 1) := by decide +kernel
theorem dX5_sumPlanned_7 : decode cX5_sumPlanned 7 = .ok (.aload_n 1, 1) := by decide +kernel
theorem dX5_sumPlanned_8 : decode cX5_sumPlanned 8 = .ok (.iload_n 3, 1) := by decide +kernel
theorem dX5_sumPlanned_9 : decode cX5_sumPlanned 9 = .ok (.invokevirtual 28, 3) := by decide +kernel
theorem dX5_sumPlanned_12 : decode cX5_sumPlanned 12 = .ok (.istore 9, 2) := by decide +kernel
theorem dX5_sumPlanned_14 : decode cX5_sumPlanned 14 = .ok (.aload_n 1, 1) := by decide +kernel
theorem dX5_sumPlanned_15 : decode cX5_sumPlanned 15 = .ok (.iconst (-1), 1) := by decide +kernel
theorem dX5_sumPlanned_16 : decode cX5_sumPlanned 16 = .ok (.iload_n 3, 1) := by decide +kernel
theorem dX5_sumPlanned_17 : decode cX5_sumPlanned 17 = .ok (.invokevirtual 18, 3) := by decide +kernel
theorem dX5_sumPlanned_20 : decode cX5_sumPlanned 20 = .ok (.istore 10, 2) := by decide +kernel
theorem dX5_sumPlanned_22 : decode cX5_sumPlanned 22 = .ok (.iconst 0, 1) := by decide +kernel
theorem dX5_sumPlanned_23 : decode cX5_sumPlanned 23 = .ok (.istore 11, 2) := by decide +kernel
theorem dX5_sumPlanned_25 : decode cX5_sumPlanned 25 = .ok (.iload 11, 2) := by decide +kernel
theorem dX5_sumPlanned_27 : decode cX5_sumPlanned 27 = .ok (.iload 9, 2) := by decide +kernel
theorem dX5_sumPlanned_29 : decode cX5_sumPlanned 29 = .ok (.if_icmp .ge 40, 3) := by decide +kernel
theorem dX5_sumPlanned_32 : decode cX5_sumPlanned 32 = .ok (.lload 6, 2) := by decide +kernel
theorem dX5_sumPlanned_34 : decode cX5_sumPlanned 34 = .ok (.aload 4, 2) := by decide +kernel
theorem dX5_sumPlanned_36 : decode cX5_sumPlanned 36 = .ok (.iload 5, 2) := by decide +kernel
theorem dX5_sumPlanned_38 : decode cX5_sumPlanned 38 = .ok (.iload 10, 2) := by decide +kernel
theorem dX5_sumPlanned_40 : decode cX5_sumPlanned 40 = .ok (.iload 8, 2) := by decide +kernel
theorem dX5_sumPlanned_42 : decode cX5_sumPlanned 42 = .ok (.isub, 1) := by decide +kernel
theorem dX5_sumPlanned_43 : decode cX5_sumPlanned 43 = .ok (.invokevirtual 32, 3) := by decide +kernel
theorem dX5_sumPlanned_46 : decode cX5_sumPlanned 46 = .ok (.i2l, 1) := by decide +kernel
theorem dX5_sumPlanned_47 : decode cX5_sumPlanned 47 = .ok (.ladd, 1) := by decide +kernel
theorem dX5_sumPlanned_48 : decode cX5_sumPlanned 48 = .ok (.lstore 6, 2) := by decide +kernel
theorem dX5_sumPlanned_50 : decode cX5_sumPlanned 50 = .ok (.iload 10, 2) := by decide +kernel
theorem dX5_sumPlanned_52 : decode cX5_sumPlanned 52 = .ok (.istore 8, 2) := by decide +kernel
theorem dX5_sumPlanned_54 : decode cX5_sumPlanned 54 = .ok (.aload_n 1, 1) := by decide +kernel
theorem dX5_sumPlanned_55 : decode cX5_sumPlanned 55 = .ok (.iload 10, 2) := by decide +kernel
theorem dX5_sumPlanned_57 : decode cX5_sumPlanned 57 = .ok (.iload_n 3, 1) := by decide +kernel
theorem dX5_sumPlanned_58 : decode cX5_sumPlanned 58 = .ok (.invokevirtual 18, 3) := by decide +kernel
theorem dX5_sumPlanned_61 : decode cX5_sumPlanned 61 = .ok (.istore 10, 2) := by decide +kernel
theorem dX5_sumPlanned_63 : decode cX5_sumPlanned 63 = .ok (.iinc 11 1, 3) := by decide +kernel
theorem dX5_sumPlanned_66 : decode cX5_sumPlanned 66 = .ok (.goto (-41), 3) := by decide +kernel
theorem dX5_sumPlanned_69 : decode cX5_sumPlanned 69 = .ok (.lload 6, 2) := by decide +kernel
theorem dX5_sumPlanned_71 : decode cX5_sumPlanned 71 = .ok (.aload 4, 2) := by decide +kernel
theorem dX5_sumPlanned_73 : decode cX5_sumPlanned 73 = .ok (.iload 5, 2) := by decide +kernel
theorem dX5_sumPlanned_75 : decode cX5_sumPlanned 75 = .ok (.iload_n 3, 1) := by decide +kernel
theorem dX5_sumPlanned_76 : decode cX5_sumPlanned 76 = .ok (.iload 8, 2) := by decide +kernel
theorem dX5_sumPlanned_78 : decode cX5_sumPlanned 78 = .ok (.isub, 1) := by decide +kernel
theorem dX5_sumPlanned_79 : decode cX5_sumPlanned 79 = .ok (.invokevirtual 32, 3) := by decide +kernel
theorem dX5_sumPlanned_82 : decode cX5_sumPlanned 82 = .ok (.i2l, 1) := by decide +kernel
theorem dX5_sumPlanned_83 : decode cX5_sumPlanned 83 = .ok (.ladd, 1) := by decide +kernel
theorem dX5_sumPlanned_84 : decode cX5_sumPlanned 84 = .ok (.lreturn, 1) := by decide +kernel
theorem dX5_countFewest_0 : decode cX5_countFewest 0 = .ok (.iconst 0, 1) := by decide +kernel
theorem dX5_countFewest_1 : decode cX5_countFewest 1 = .ok (.istore 4, 2) := by decide +kernel
theorem dX5_countFewest_3 : decode cX5_countFewest 3 = .ok (.iload 4, 2) := by decide +kernel
theorem dX5_countFewest_5 : decode cX5_countFewest 5 = .ok (.sipush 402, 3) := by decide +kernel
theorem dX5_countFewest_8 : decode cX5_countFewest 8 = .ok (.if_icmp .ge 17, 3) := by decide +kernel
theorem dX5_countFewest_11 : decode cX5_countFewest 11 = .ok (.aload_n 0, 1) := by decide +kernel
theorem dX5_countFewest_12 : decode cX5_countFewest 12 = .ok (.getfield 11, 3) := by decide +kernel
theorem dX5_countFewest_15 : decode cX5_countFewest 15 = .ok (.iload 4, 2) := by decide +kernel
theorem dX5_countFewest_17 : decode cX5_countFewest 17 = .ok (.lconst 1, 1) := by decide +kernel
theorem dX5_countFewest_18 : decode cX5_countFewest 18 = .ok (.lastore, 1) := by decide +kernel
theorem dX5_countFewest_19 : decode cX5_countFewest 19 = .ok (.iinc 4 1, 3) := by decide +kernel
theorem dX5_countFewest_22 : decode cX5_countFewest 22 = .ok (.goto (-19), 3) := by decide +kernel
theorem dX5_countFewest_25 : decode cX5_countFewest 25 = .ok (.aload_n 0, 1) := by decide +kernel
theorem dX5_countFewest_26 : decode cX5_countFewest 26 = .ok (.aload_n 1, 1) := by decide +kernel
theorem dX5_countFewest_27 : decode cX5_countFewest 27 = .ok (.iload_n 2, 1) := by decide +kernel
theorem dX5_countFewest_28 : decode cX5_countFewest 28 = .ok (.iload_n 2, 1) := by decide +kernel
theorem dX5_countFewest_29 : decode cX5_countFewest 29 = .ok (.iconst 1, 1) := by decide +kernel
theorem dX5_countFewest_30 : decode cX5_countFewest 30 = .ok (.isub, 1) := by decide +kernel
theorem dX5_countFewest_31 : decode cX5_countFewest 31 = .ok (.iload_n 3, 1) := by decide +kernel
theorem dX5_countFewest_32 : decode cX5_countFewest 32 = .ok (.invokevirtual 37, 3) := by decide +kernel
theorem dX5_countFewest_35 : decode cX5_countFewest 35 = .ok (.l2i, 1) := by decide +kernel
theorem dX5_countFewest_36 : decode cX5_countFewest 36 = .ok (.iconst 1, 1) := by decide +kernel
theorem dX5_countFewest_37 : decode cX5_countFewest 37 = .ok (.isub, 1) := by decide +kernel
theorem dX5_countFewest_38 : decode cX5_countFewest 38 = .ok (.ireturn, 1) := by decide +kernel
theorem dX5_sumLeast_0 : decode cX5_sumLeast 0 = .ok (.iconst 0, 1) := by decide +kernel
theorem dX5_sumLeast_1 : decode cX5_sumLeast 1 = .ok (.istore 6, 2) := by decide +kernel
theorem dX5_sumLeast_3 : decode cX5_sumLeast 3 = .ok (.iload 6, 2) := by decide +kernel
theorem dX5_sumLeast_5 : decode cX5_sumLeast 5 = .ok (.sipush 402, 3) := by decide +kernel
theorem dX5_sumLeast_8 : decode cX5_sumLeast 8 = .ok (.if_icmp .ge 26, 3) := by decide +kernel
theorem dX5_sumLeast_11 : decode cX5_sumLeast 11 = .ok (.aload_n 0, 1) := by decide +kernel
theorem dX5_sumLeast_12 : decode cX5_sumLeast 12 = .ok (.getfield 11, 3) := by decide +kernel
theorem dX5_sumLeast_15 : decode cX5_sumLeast 15 = .ok (.iload 6, 2) := by decide +kernel
theorem dX5_sumLeast_17 : decode cX5_sumLeast 17 = .ok (.aload 4, 2) := by decide +kernel
theorem dX5_sumLeast_19 : decode cX5_sumLeast 19 = .ok (.iload 5, 2) := by decide +kernel
theorem dX5_sumLeast_21 : decode cX5_sumLeast 21 = .ok (.iload 6, 2) := by decide +kernel
theorem dX5_sumLeast_23 : decode cX5_sumLeast 23 = .ok (.invokevirtual 41, 3) := by decide +kernel
theorem dX5_sumLeast_26 : decode cX5_sumLeast 26 = .ok (.i2l, 1) := by decide +kernel
theorem dX5_sumLeast_27 : decode cX5_sumLeast 27 = .ok (.lastore, 1) := by decide +kernel
theorem dX5_sumLeast_28 : decode cX5_sumLeast 28 = .ok (.iinc 6 1, 3) := by decide +kernel
theorem dX5_sumLeast_31 : decode cX5_sumLeast 31 = .ok (.goto (-28), 3) := by decide +kernel
theorem dX5_sumLeast_34 : decode cX5_sumLeast 34 = .ok (.aload_n 0, 1) := by decide +kernel
theorem dX5_sumLeast_35 : decode cX5_sumLeast 35 = .ok (.aload_n 1, 1) := by decide +kernel
theorem dX5_sumLeast_36 : decode cX5_sumLeast 36 = .ok (.iload_n 2, 1) := by decide +kernel
theorem dX5_sumLeast_37 : decode cX5_sumLeast 37 = .ok (.iload_n 2, 1) := by decide +kernel
theorem dX5_sumLeast_38 : decode cX5_sumLeast 38 = .ok (.iload_n 3, 1) := by decide +kernel
theorem dX5_sumLeast_39 : decode cX5_sumLeast 39 = .ok (.invokevirtual 37, 3) := by decide +kernel
theorem dX5_sumLeast_42 : decode cX5_sumLeast 42 = .ok (.lreturn, 1) := by decide +kernel
theorem dX5_leastSum_0 : decode cX5_leastSum 0 = .ok (.iload 4, 2) := by decide +kernel
theorem dX5_leastSum_2 : decode cX5_leastSum 2 = .ok (.iload_n 3, 1) := by decide +kernel
theorem dX5_leastSum_3 : decode cX5_leastSum 3 = .ok (.isub, 1) := by decide +kernel
theorem dX5_leastSum_4 : decode cX5_leastSum 4 = .ok (.istore 5, 2) := by decide +kernel
theorem dX5_leastSum_6 : decode cX5_leastSum 6 = .ok (.iload 5, 2) := by decide +kernel
theorem dX5_leastSum_8 : decode cX5_leastSum 8 = .ok (.ifCond .lt 11, 3) := by decide +kernel
theorem dX5_leastSum_11 : decode cX5_leastSum 11 = .ok (.iload 5, 2) := by decide +kernel
theorem dX5_leastSum_13 : decode cX5_leastSum 13 = .ok (.sipush 402, 3) := by decide +kernel
theorem dX5_leastSum_16 : decode cX5_leastSum 16 = .ok (.if_icmp .lt 5, 3) := by decide +kernel
theorem dX5_leastSum_19 : decode cX5_leastSum 19 = .ok (.lconst 0, 1) := by decide +kernel
theorem dX5_leastSum_20 : decode cX5_leastSum 20 = .ok (.lreturn, 1) := by decide +kernel
theorem dX5_leastSum_21 : decode cX5_leastSum 21 = .ok (.aload_n 0, 1) := by decide +kernel
theorem dX5_leastSum_22 : decode cX5_leastSum 22 = .ok (.getfield 15, 3) := by decide +kernel
theorem dX5_leastSum_25 : decode cX5_leastSum 25 = .ok (.iconst 0, 1) := by decide +kernel
theorem dX5_leastSum_26 : decode cX5_leastSum 26 = .ok (.lconst 0, 1) := by decide +kernel
theorem dX5_leastSum_27 : decode cX5_leastSum 27 = .ok (.lastore, 1) := by decide +kernel
theorem dX5_leastSum_28 : decode cX5_leastSum 28 = .ok (.iconst 1, 1) := by decide +kernel
theorem dX5_leastSum_29 : decode cX5_leastSum 29 = .ok (.istore 6, 2) := by decide +kernel
theorem dX5_leastSum_31 : decode cX5_leastSum 31 = .ok (.iload 6, 2) := by decide +kernel
theorem dX5_leastSum_33 : decode cX5_leastSum 33 = .ok (.iload 5, 2) := by decide +kernel
theorem dX5_leastSum_35 : decode cX5_leastSum 35 = .ok (.if_icmp .gt 33, 3) := by decide +kernel
theorem dX5_leastSum_38 : decode cX5_leastSum 38 = .ok (.aload_n 0, 1) := by decide +kernel
theorem dX5_leastSum_39 : decode cX5_leastSum 39 = .ok (.getfield 15, 3) := by decide +kernel
theorem dX5_leastSum_42 : decode cX5_leastSum 42 = .ok (.iload 6, 2) := by decide +kernel
theorem dX5_leastSum_44 : decode cX5_leastSum 44 = .ok (.aload_n 0, 1) := by decide +kernel
theorem dX5_leastSum_45 : decode cX5_leastSum 45 = .ok (.iload 6, 2) := by decide +kernel
theorem dX5_leastSum_47 : decode cX5_leastSum 47 = .ok (.aload_n 0, 1) := by decide +kernel
theorem dX5_leastSum_48 : decode cX5_leastSum 48 = .ok (.aload_n 1, 1) := by decide +kernel
theorem dX5_leastSum_49 : decode cX5_leastSum 49 = .ok (.iload_n 2, 1) := by decide +kernel
theorem dX5_leastSum_50 : decode cX5_leastSum 50 = .ok (.iload_n 3, 1) := by decide +kernel
theorem dX5_leastSum_51 : decode cX5_leastSum 51 = .ok (.iload_n 3, 1) := by decide +kernel
theorem dX5_leastSum_52 : decode cX5_leastSum 52 = .ok (.iload 6, 2) := by decide +kernel
theorem dX5_leastSum_54 : decode cX5_leastSum 54 = .ok (.iadd, 1) := by decide +kernel
theorem dX5_leastSum_55 : decode cX5_leastSum 55 = .ok (.invokevirtual 44, 3) := by decide +kernel
theorem dX5_leastSum_58 : decode cX5_leastSum 58 = .ok (.invokevirtual 48, 3) := by decide +kernel
theorem dX5_leastSum_61 : decode cX5_leastSum 61 = .ok (.lastore, 1) := by decide +kernel
theorem dX5_leastSum_62 : decode cX5_leastSum 62 = .ok (.iinc 6 1, 3) := by decide +kernel
theorem dX5_leastSum_65 : decode cX5_leastSum 65 = .ok (.goto (-34), 3) := by decide +kernel
theorem dX5_leastSum_68 : decode cX5_leastSum 68 = .ok (.aload_n 0, 1) := by decide +kernel
theorem dX5_leastSum_69 : decode cX5_leastSum 69 = .ok (.getfield 15, 3) := by decide +kernel
theorem dX5_leastSum_72 : decode cX5_leastSum 72 = .ok (.iload 5, 2) := by decide +kernel
theorem dX5_leastSum_74 : decode cX5_leastSum 74 = .ok (.laload, 1) := by decide +kernel
theorem dX5_leastSum_75 : decode cX5_leastSum 75 = .ok (.lreturn, 1) := by decide +kernel
theorem dX5_earliestBefore_0 : decode cX5_earliestBefore 0 = .ok (.aload_n 1, 1) := by decide +kernel
theorem dX5_earliestBefore_1 : decode cX5_earliestBefore 1 = .ok (.iload 4, 2) := by decide +kernel
theorem dX5_earliestBefore_3 : decode cX5_earliestBefore 3 = .ok (.invokevirtual 52, 3) := by decide +kernel
theorem dX5_earliestBefore_6 : decode cX5_earliestBefore 6 = .ok (.istore 5, 2) := by decide +kernel
theorem dX5_earliestBefore_8 : decode cX5_earliestBefore 8 = .ok (.iload 5, 2) := by decide +kernel
theorem dX5_earliestBefore_10 : decode cX5_earliestBefore 10 = .ok (.iconst (-1), 1) := by decide +kernel
theorem dX5_earliestBefore_11 : decode cX5_earliestBefore 11 = .ok (.if_icmp .ne 7, 3) := by decide +kernel
theorem dX5_earliestBefore_14 : decode cX5_earliestBefore 14 = .ok (.iconst 0, 1) := by decide +kernel
theorem dX5_earliestBefore_15 : decode cX5_earliestBefore 15 = .ok (.goto 11, 3) := by decide +kernel
theorem dX5_earliestBefore_18 : decode cX5_earliestBefore 18 = .ok (.iload 5, 2) := by decide +kernel
theorem dX5_earliestBefore_20 : decode cX5_earliestBefore 20 = .ok (.iload_n 2, 1) := by decide +kernel
theorem dX5_earliestBefore_21 : decode cX5_earliestBefore 21 = .ok (.invokestatic 56, 3) := by decide +kernel
theorem dX5_earliestBefore_24 : decode cX5_earliestBefore 24 = .ok (.iload_n 3, 1) := by decide +kernel
theorem dX5_earliestBefore_25 : decode cX5_earliestBefore 25 = .ok (.isub, 1) := by decide +kernel
theorem dX5_earliestBefore_26 : decode cX5_earliestBefore 26 = .ok (.ireturn, 1) := by decide +kernel
theorem dX5_leastSumTo_0 : decode cX5_leastSumTo 0 = .ok (.ldc2_w 61, 3) := by decide +kernel
theorem dX5_leastSumTo_3 : decode cX5_leastSumTo 3 = .ok (.lstore_n 3, 1) := by decide +kernel
theorem dX5_leastSumTo_4 : decode cX5_leastSumTo 4 = .ok (.iload_n 2, 1) := by decide +kernel
theorem dX5_leastSumTo_5 : decode cX5_leastSumTo 5 = .ok (.iconst 0, 1) := by decide +kernel
theorem dX5_leastSumTo_6 : decode cX5_leastSumTo 6 = .ok (.invokestatic 56, 3) := by decide +kernel
theorem dX5_leastSumTo_9 : decode cX5_leastSumTo 9 = .ok (.istore 5, 2) := by decide +kernel
theorem dX5_leastSumTo_11 : decode cX5_leastSumTo 11 = .ok (.iload 5, 2) := by decide +kernel
theorem dX5_leastSumTo_13 : decode cX5_leastSumTo 13 = .ok (.iload_n 1, 1) := by decide +kernel
theorem dX5_leastSumTo_14 : decode cX5_leastSumTo 14 = .ok (.if_icmp .ge 38, 3) := by decide +kernel
theorem dX5_leastSumTo_17 : decode cX5_leastSumTo 17 = .ok (.aload_n 0, 1) := by decide +kernel
theorem dX5_leastSumTo_18 : decode cX5_leastSumTo 18 = .ok (.getfield 15, 3) := by decide +kernel
theorem dX5_leastSumTo_21 : decode cX5_leastSumTo 21 = .ok (.iload 5, 2) := by decide +kernel
theorem dX5_leastSumTo_23 : decode cX5_leastSumTo 23 = .ok (.laload, 1) := by decide +kernel
theorem dX5_leastSumTo_24 : decode cX5_leastSumTo 24 = .ok (.aload_n 0, 1) := by decide +kernel
theorem dX5_leastSumTo_25 : decode cX5_leastSumTo 25 = .ok (.getfield 11, 3) := by decide +kernel
theorem dX5_leastSumTo_28 : decode cX5_leastSumTo 28 = .ok (.iload_n 1, 1) := by decide +kernel
theorem dX5_leastSumTo_29 : decode cX5_leastSumTo 29 = .ok (.iload 5, 2) := by decide +kernel
theorem dX5_leastSumTo_31 : decode cX5_leastSumTo 31 = .ok (.isub, 1) := by decide +kernel
theorem dX5_leastSumTo_32 : decode cX5_leastSumTo 32 = .ok (.laload, 1) := by decide +kernel
theorem dX5_leastSumTo_33 : decode cX5_leastSumTo 33 = .ok (.ladd, 1) := by decide +kernel
theorem dX5_leastSumTo_34 : decode cX5_leastSumTo 34 = .ok (.lstore 6, 2) := by decide +kernel
theorem dX5_leastSumTo_36 : decode cX5_leastSumTo 36 = .ok (.lload 6, 2) := by decide +kernel
theorem dX5_leastSumTo_38 : decode cX5_leastSumTo 38 = .ok (.lload_n 3, 1) := by decide +kernel
theorem dX5_leastSumTo_39 : decode cX5_leastSumTo 39 = .ok (.lcmp, 1) := by decide +kernel
theorem dX5_leastSumTo_40 : decode cX5_leastSumTo 40 = .ok (.ifCond .ge 6, 3) := by decide +kernel
theorem dX5_leastSumTo_43 : decode cX5_leastSumTo 43 = .ok (.lload 6, 2) := by decide +kernel
theorem dX5_leastSumTo_45 : decode cX5_leastSumTo 45 = .ok (.lstore_n 3, 1) := by decide +kernel
theorem dX5_leastSumTo_46 : decode cX5_leastSumTo 46 = .ok (.iinc 5 1, 3) := by decide +kernel
theorem dX5_leastSumTo_49 : decode cX5_leastSumTo 49 = .ok (.goto (-38), 3) := by decide +kernel
theorem dX5_leastSumTo_52 : decode cX5_leastSumTo 52 = .ok (.lload_n 3, 1) := by decide +kernel
theorem dX5_leastSumTo_53 : decode cX5_leastSumTo 53 = .ok (.lreturn, 1) := by decide +kernel
theorem dX6_init_0 : decode cX6_init 0 = .ok (.aload_n 0, 1) := by decide +kernel
theorem dX6_init_1 : decode cX6_init 1 = .ok (.invokespecial 3, 3) := by decide +kernel
theorem dX6_init_4 : decode cX6_init 4 = .ok (.aload_n 0, 1) := by decide +kernel
theorem dX6_init_5 : decode cX6_init 5 = .ok (.iconst 4, 1) := by decide +kernel
theorem dX6_init_6 : decode cX6_init 6 = .ok (.newarray .int, 2) := by decide +kernel
theorem dX6_init_8 : decode cX6_init 8 = .ok (.dup, 1) := by decide +kernel
theorem dX6_init_9 : decode cX6_init 9 = .ok (.iconst 0, 1) := by decide +kernel
theorem dX6_init_10 : decode cX6_init 10 = .ok (.bipush 100, 2) := by decide +kernel
theorem dX6_init_12 : decode cX6_init 12 = .ok (.iastore, 1) := by decide +kernel
theorem dX6_init_13 : decode cX6_init 13 = .ok (.dup, 1) := by decide +kernel
theorem dX6_init_14 : decode cX6_init 14 = .ok (.iconst 1, 1) := by decide +kernel
theorem dX6_init_15 : decode cX6_init 15 = .ok (.bipush 40, 2) := by decide +kernel
theorem dX6_init_17 : decode cX6_init 17 = .ok (.iastore, 1) := by decide +kernel
theorem dX6_init_18 : decode cX6_init 18 = .ok (.dup, 1) := by decide +kernel
theorem dX6_init_19 : decode cX6_init 19 = .ok (.iconst 2, 1) := by decide +kernel
theorem dX6_init_20 : decode cX6_init 20 = .ok (.bipush 10, 2) := by decide +kernel
theorem dX6_init_22 : decode cX6_init 22 = .ok (.iastore, 1) := by decide +kernel
theorem dX6_init_23 : decode cX6_init 23 = .ok (.dup, 1) := by decide +kernel
theorem dX6_init_24 : decode cX6_init 24 = .ok (.iconst 3, 1) := by decide +kernel
theorem dX6_init_25 : decode cX6_init 25 = .ok (.iconst 1, 1) := by decide +kernel
theorem dX6_init_26 : decode cX6_init 26 = .ok (.iastore, 1) := by decide +kernel
theorem dX6_init_27 : decode cX6_init 27 = .ok (.putfield 9, 3) := by decide +kernel
theorem dX6_init_30 : decode cX6_init 30 = .ok (.aload_n 0, 1) := by decide +kernel
theorem dX6_init_31 : decode cX6_init 31 = .ok (.iconst 4, 1) := by decide +kernel
theorem dX6_init_32 : decode cX6_init 32 = .ok (.newarray .int, 2) := by decide +kernel
theorem dX6_init_34 : decode cX6_init 34 = .ok (.dup, 1) := by decide +kernel
theorem dX6_init_35 : decode cX6_init 35 = .ok (.iconst 0, 1) := by decide +kernel
theorem dX6_init_36 : decode cX6_init 36 = .ok (.iconst 0, 1) := by decide +kernel
theorem dX6_init_37 : decode cX6_init 37 = .ok (.iastore, 1) := by decide +kernel
theorem dX6_init_38 : decode cX6_init 38 = .ok (.dup, 1) := by decide +kernel
theorem dX6_init_39 : decode cX6_init 39 = .ok (.iconst 1, 1) := by decide +kernel
theorem dX6_init_40 : decode cX6_init 40 = .ok (.bipush 20, 2) := by decide +kernel
theorem dX6_init_42 : decode cX6_init 42 = .ok (.iastore, 1) := by decide +kernel
theorem dX6_init_43 : decode cX6_init 43 = .ok (.dup, 1) := by decide +kernel
theorem dX6_init_44 : decode cX6_init 44 = .ok (.iconst 2, 1) := by decide +kernel
theorem dX6_init_45 : decode cX6_init 45 = .ok (.sipush 150, 3) := by decide +kernel
theorem dX6_init_48 : decode cX6_init 48 = .ok (.iastore, 1) := by decide +kernel
theorem dX6_init_49 : decode cX6_init 49 = .ok (.dup, 1) := by decide +kernel
theorem dX6_init_50 : decode cX6_init 50 = .ok (.iconst 3, 1) := by decide +kernel
theorem dX6_init_51 : decode cX6_init 51 = .ok (.sipush 600, 3) := by decide +kernel
theorem dX6_init_54 : decode cX6_init 54 = .ok (.iastore, 1) := by decide +kernel
theorem dX6_init_55 : decode cX6_init 55 = .ok (.putfield 15, 3) := by decide +kernel
theorem dX6_init_58 : decode cX6_init 58 = .ok (.aload_n 0, 1) := by decide +kernel
theorem dX6_init_59 : decode cX6_init 59 = .ok (.iconst 4, 1) := by decide +kernel
theorem dX6_init_60 : decode cX6_init 60 = .ok (.newarray .int, 2) := by decide +kernel
theorem dX6_init_62 : decode cX6_init 62 = .ok (.dup, 1) := by decide +kernel
theorem dX6_init_63 : decode cX6_init 63 = .ok (.iconst 0, 1) := by decide +kernel
theorem dX6_init_64 : decode cX6_init 64 = .ok (.iconst 0, 1) := by decide +kernel
theorem dX6_init_65 : decode cX6_init 65 = .ok (.iastore, 1) := by decide +kernel
theorem dX6_init_66 : decode cX6_init 66 = .ok (.dup, 1) := by decide +kernel
theorem dX6_init_67 : decode cX6_init 67 = .ok (.iconst 1, 1) := by decide +kernel
theorem dX6_init_68 : decode cX6_init 68 = .ok (.iconst 1, 1) := by decide +kernel
theorem dX6_init_69 : decode cX6_init 69 = .ok (.iastore, 1) := by decide +kernel
theorem dX6_init_70 : decode cX6_init 70 = .ok (.dup, 1) := by decide +kernel
theorem dX6_init_71 : decode cX6_init 71 = .ok (.iconst 2, 1) := by decide +kernel
theorem dX6_init_72 : decode cX6_init 72 = .ok (.iconst 3, 1) := by decide +kernel
theorem dX6_init_73 : decode cX6_init 73 = .ok (.iastore, 1) := by decide +kernel
theorem dX6_init_74 : decode cX6_init 74 = .ok (.dup, 1) := by decide +kernel
theorem dX6_init_75 : decode cX6_init 75 = .ok (.iconst 3, 1) := by decide +kernel
theorem dX6_init_76 : decode cX6_init 76 = .ok (.bipush 8, 2) := by decide +kernel
theorem dX6_init_78 : decode cX6_init 78 = .ok (.iastore, 1) := by decide +kernel
theorem dX6_init_79 : decode cX6_init 79 = .ok (.putfield 18, 3) := by decide +kernel
theorem dX6_init_82 : decode cX6_init 82 = .ok (.return_, 1) := by decide +kernel
theorem dX6_change_0 : decode cX6_change 0 = .ok (.aload_n 0, 1) := by decide +kernel
theorem dX6_change_1 : decode cX6_change 1 = .ok (.getfield 9, 3) := by decide +kernel
theorem dX6_change_4 : decode cX6_change 4 = .ok (.iload_n 1, 1) := by decide +kernel
theorem dX6_change_5 : decode cX6_change 5 = .ok (.iload_n 2, 1) := by decide +kernel
theorem dX6_change_6 : decode cX6_change 6 = .ok (.invokestatic 21, 3) := by decide +kernel
theorem dX6_change_9 : decode cX6_change 9 = .ok (.pop, 1) := by decide +kernel
theorem dX6_change_10 : decode cX6_change 10 = .ok (.aload_n 0, 1) := by decide +kernel
theorem dX6_change_11 : decode cX6_change 11 = .ok (.getfield 15, 3) := by decide +kernel
theorem dX6_change_14 : decode cX6_change 14 = .ok (.iload_n 1, 1) := by decide +kernel
theorem dX6_change_15 : decode cX6_change 15 = .ok (.iload_n 3, 1) := by decide +kernel
theorem dX6_change_16 : decode cX6_change 16 = .ok (.invokestatic 21, 3) := by decide +kernel
theorem dX6_change_19 : decode cX6_change 19 = .ok (.pop, 1) := by decide +kernel
theorem dX6_change_20 : decode cX6_change 20 = .ok (.aload_n 0, 1) := by decide +kernel
theorem dX6_change_21 : decode cX6_change 21 = .ok (.getfield 18, 3) := by decide +kernel
theorem dX6_change_24 : decode cX6_change 24 = .ok (.iload_n 1, 1) := by decide +kernel
theorem dX6_change_25 : decode cX6_change 25 = .ok (.iload 4, 2) := by decide +kernel
theorem dX6_change_27 : decode cX6_change 27 = .ok (.invokestatic 21, 3) := by decide +kernel
theorem dX6_change_30 : decode cX6_change 30 = .ok (.pop, 1) := by decide +kernel
theorem dX6_change_31 : decode cX6_change 31 = .ok (.return_, 1) := by decide +kernel
theorem dX6_powerOf_0 : decode cX6_powerOf 0 = .ok (.aload_n 0, 1) := by decide +kernel
theorem dX6_powerOf_1 : decode cX6_powerOf 1 = .ok (.getfield 9, 3) := by decide +kernel
theorem dX6_powerOf_4 : decode cX6_powerOf 4 = .ok (.iload_n 1, 1) := by decide +kernel
theorem dX6_powerOf_5 : decode cX6_powerOf 5 = .ok (.invokestatic 25, 3) := by decide +kernel
theorem dX6_powerOf_8 : decode cX6_powerOf 8 = .ok (.ireturn, 1) := by decide +kernel
theorem dX6_costOf_0 : decode cX6_costOf 0 = .ok (.aload_n 0, 1) := by decide +kernel
theorem dX6_costOf_1 : decode cX6_costOf 1 = .ok (.getfield 15, 3) := by decide +kernel
theorem dX6_costOf_4 : decode cX6_costOf 4 = .ok (.iload_n 1, 1) := by decide +kernel
theorem dX6_costOf_5 : decode cX6_costOf 5 = .ok (.invokestatic 25, 3) := by decide +kernel
theorem dX6_costOf_8 : decode cX6_costOf 8 = .ok (.ireturn, 1) := by decide +kernel
theorem dX6_latencyOf_0 : decode cX6_latencyOf 0 = .ok (.aload_n 0, 1) := by decide +kernel
theorem dX6_latencyOf_1 : decode cX6_latencyOf 1 = .ok (.getfield 18, 3) := by decide +kernel
theorem dX6_latencyOf_4 : decode cX6_latencyOf 4 = .ok (.iload_n 1, 1) := by decide +kernel
theorem dX6_latencyOf_5 : decode cX6_latencyOf 5 = .ok (.invokestatic 25, 3) := by decide +kernel
theorem dX6_latencyOf_8 : decode cX6_latencyOf 8 = .ok (.ireturn, 1) := by decide +kernel
theorem dX6_wakingCost_0 : decode cX6_wakingCost 0 = .ok (.aload_n 0, 1) := by decide +kernel
theorem dX6_wakingCost_1 : decode cX6_wakingCost 1 = .ok (.iconst 0, 1) := by decide +kernel
theorem dX6_wakingCost_2 : decode cX6_wakingCost 2 = .ok (.invokevirtual 29, 3) := by decide +kernel
theorem dX6_wakingCost_5 : decode cX6_wakingCost 5 = .ok (.aload_n 0, 1) := by decide +kernel
theorem dX6_wakingCost_6 : decode cX6_wakingCost 6 = .ok (.iload_n 1, 1) := by decide +kernel
theorem dX6_wakingCost_7 : decode cX6_wakingCost 7 = .ok (.invokevirtual 33, 3) := by decide +kernel
theorem dX6_wakingCost_10 : decode cX6_wakingCost 10 = .ok (.imul, 1) := by decide +kernel
theorem dX6_wakingCost_11 : decode cX6_wakingCost 11 = .ok (.ireturn, 1) := by decide +kernel
theorem dX6_idleCost_0 : decode cX6_idleCost 0 = .ok (.aload_n 0, 1) := by decide +kernel
theorem dX6_idleCost_1 : decode cX6_idleCost 1 = .ok (.iload_n 1, 1) := by decide +kernel
theorem dX6_idleCost_2 : decode cX6_idleCost 2 = .ok (.invokevirtual 36, 3) := by decide +kernel
theorem dX6_idleCost_5 : decode cX6_idleCost 5 = .ok (.aload_n 0, 1) := by decide +kernel
theorem dX6_idleCost_6 : decode cX6_idleCost 6 = .ok (.iload_n 1, 1) := by decide +kernel
theorem dX6_idleCost_7 : decode cX6_idleCost 7 = .ok (.invokevirtual 29, 3) := by decide +kernel
theorem dX6_idleCost_10 : decode cX6_idleCost 10 = .ok (.iload_n 2, 1) := by decide +kernel
theorem dX6_idleCost_11 : decode cX6_idleCost 11 = .ok (.aload_n 0, 1) := by decide +kernel
theorem dX6_idleCost_12 : decode cX6_idleCost 12 = .ok (.iload_n 1, 1) := by decide +kernel
theorem dX6_idleCost_13 : decode cX6_idleCost 13 = .ok (.invokevirtual 33, 3) := by decide +kernel
theorem dX6_idleCost_16 : decode cX6_idleCost 16 = .ok (.isub, 1) := by decide +kernel
theorem dX6_idleCost_17 : decode cX6_idleCost 17 = .ok (.imul, 1) := by decide +kernel
theorem dX6_idleCost_18 : decode cX6_idleCost 18 = .ok (.iadd, 1) := by decide +kernel
theorem dX6_idleCost_19 : decode cX6_idleCost 19 = .ok (.aload_n 0, 1) := by decide +kernel
theorem dX6_idleCost_20 : decode cX6_idleCost 20 = .ok (.iload_n 1, 1) := by decide +kernel
theorem dX6_idleCost_21 : decode cX6_idleCost 21 = .ok (.invokevirtual 39, 3) := by decide +kernel
theorem dX6_idleCost_24 : decode cX6_idleCost 24 = .ok (.iadd, 1) := by decide +kernel
theorem dX6_idleCost_25 : decode cX6_idleCost 25 = .ok (.ireturn, 1) := by decide +kernel
theorem dX6_leastWorthwhile_0 : decode cX6_leastWorthwhile 0 = .ok (.aload_n 0, 1) := by decide +kernel
theorem dX6_leastWorthwhile_1 : decode cX6_leastWorthwhile 1 = .ok (.iload_n 1, 1) := by decide +kernel
theorem dX6_leastWorthwhile_2 : decode cX6_leastWorthwhile 2 = .ok (.invokevirtual 36, 3) := by decide +kernel
theorem dX6_leastWorthwhile_5 : decode cX6_leastWorthwhile 5 = .ok (.ifCond .ne 9, 3) := by decide +kernel
theorem dX6_leastWorthwhile_8 : decode cX6_leastWorthwhile 8 = .ok (.aload_n 0, 1) := by decide +kernel
theorem dX6_leastWorthwhile_9 : decode cX6_leastWorthwhile 9 = .ok (.iload_n 1, 1) := by decide +kernel
theorem dX6_leastWorthwhile_10 : decode cX6_leastWorthwhile 10 = .ok (.invokevirtual 33, 3) := by decide +kernel
theorem dX6_leastWorthwhile_13 : decode cX6_leastWorthwhile 13 = .ok (.ireturn, 1) := by decide +kernel
theorem dX6_leastWorthwhile_14 : decode cX6_leastWorthwhile 14 = .ok (.aload_n 0, 1) := by decide +kernel
theorem dX6_leastWorthwhile_15 : decode cX6_leastWorthwhile 15 = .ok (.iconst 0, 1) := by decide +kernel
theorem dX6_leastWorthwhile_16 : decode cX6_leastWorthwhile 16 = .ok (.invokevirtual 29, 3) := by decide +kernel
theorem dX6_leastWorthwhile_19 : decode cX6_leastWorthwhile 19 = .ok (.aload_n 0, 1) := by decide +kernel
theorem dX6_leastWorthwhile_20 : decode cX6_leastWorthwhile 20 = .ok (.iload_n 1, 1) := by decide +kernel
theorem dX6_leastWorthwhile_21 : decode cX6_leastWorthwhile 21 = .ok (.invokevirtual 29, 3) := by decide +kernel
theorem dX6_leastWorthwhile_24 : decode cX6_leastWorthwhile 24 = .ok (.isub, 1) := by decide +kernel
theorem dX6_leastWorthwhile_25 : decode cX6_leastWorthwhile 25 = .ok (.istore_n 2, 1) := by decide +kernel
theorem dX6_leastWorthwhile_26 : decode cX6_leastWorthwhile 26 = .ok (.iload_n 2, 1) := by decide +kernel
theorem dX6_leastWorthwhile_27 : decode cX6_leastWorthwhile 27 = .ok (.ifCond .gt 5, 3) := by decide +kernel
theorem dX6_leastWorthwhile_30 : decode cX6_leastWorthwhile 30 = .ok (.iconst (-1), 1) := by decide +kernel
theorem dX6_leastWorthwhile_31 : decode cX6_leastWorthwhile 31 = .ok (.ireturn, 1) := by decide +kernel
theorem dX6_leastWorthwhile_32 : decode cX6_leastWorthwhile 32 = .ok (.aload_n 0, 1) := by decide +kernel
theorem dX6_leastWorthwhile_33 : decode cX6_leastWorthwhile 33 = .ok (.iload_n 1, 1) := by decide +kernel
theorem dX6_leastWorthwhile_34 : decode cX6_leastWorthwhile 34 = .ok (.invokevirtual 33, 3) := by decide +kernel
theorem dX6_leastWorthwhile_37 : decode cX6_leastWorthwhile 37 = .ok (.aload_n 0, 1) := by decide +kernel
theorem dX6_leastWorthwhile_38 : decode cX6_leastWorthwhile 38 = .ok (.iload_n 1, 1) := by decide +kernel
theorem dX6_leastWorthwhile_39 : decode cX6_leastWorthwhile 39 = .ok (.invokevirtual 36, 3) := by decide +kernel
theorem dX6_leastWorthwhile_42 : decode cX6_leastWorthwhile 42 = .ok (.iload_n 2, 1) := by decide +kernel
theorem dX6_leastWorthwhile_43 : decode cX6_leastWorthwhile 43 = .ok (.iadd, 1) := by decide +kernel
theorem dX6_leastWorthwhile_44 : decode cX6_leastWorthwhile 44 = .ok (.iconst 1, 1) := by decide +kernel
theorem dX6_leastWorthwhile_45 : decode cX6_leastWorthwhile 45 = .ok (.isub, 1) := by decide +kernel
theorem dX6_leastWorthwhile_46 : decode cX6_leastWorthwhile 46 = .ok (.iload_n 2, 1) := by decide +kernel
theorem dX6_leastWorthwhile_47 : decode cX6_leastWorthwhile 47 = .ok (.idiv, 1) := by decide +kernel
theorem dX6_leastWorthwhile_48 : decode cX6_leastWorthwhile 48 = .ok (.iadd, 1) := by decide +kernel
theorem dX6_leastWorthwhile_49 : decode cX6_leastWorthwhile 49 = .ok (.istore_n 3, 1) := by decide +kernel
theorem dX6_leastWorthwhile_50 : decode cX6_leastWorthwhile 50 = .ok (.iload_n 3, 1) := by decide +kernel
theorem dX6_leastWorthwhile_51 : decode cX6_leastWorthwhile 51 = .ok (.sipush 5000, 3) := by decide +kernel
theorem dX6_leastWorthwhile_54 : decode cX6_leastWorthwhile 54 = .ok (.if_icmp .gt 7, 3) := by decide +kernel
theorem dX6_leastWorthwhile_57 : decode cX6_leastWorthwhile 57 = .ok (.iload_n 3, 1) := by decide +kernel
theorem dX6_leastWorthwhile_58 : decode cX6_leastWorthwhile 58 = .ok (.goto 4, 3) := by decide +kernel
theorem dX6_leastWorthwhile_61 : decode cX6_leastWorthwhile 61 = .ok (.iconst (-1), 1) := by decide +kernel
theorem dX6_leastWorthwhile_62 : decode cX6_leastWorthwhile 62 = .ok (.ireturn, 1) := by decide +kernel
theorem dX6_deepestThatWakes_0 : decode cX6_deepestThatWakes 0 = .ok (.iload_n 1, 1) := by decide +kernel
theorem dX6_deepestThatWakes_1 : decode cX6_deepestThatWakes 1 = .ok (.istore_n 3, 1) := by decide +kernel
theorem dX6_deepestThatWakes_2 : decode cX6_deepestThatWakes 2 = .ok (.iload_n 3, 1) := by decide +kernel
theorem dX6_deepestThatWakes_3 : decode cX6_deepestThatWakes 3 = .ok (.ifCond .le 20, 3) := by decide +kernel
theorem dX6_deepestThatWakes_6 : decode cX6_deepestThatWakes 6 = .ok (.aload_n 0, 1) := by decide +kernel
theorem dX6_deepestThatWakes_7 : decode cX6_deepestThatWakes 7 = .ok (.iload_n 3, 1) := by decide +kernel
theorem dX6_deepestThatWakes_8 : decode cX6_deepestThatWakes 8 = .ok (.invokevirtual 33, 3) := by decide +kernel
theorem dX6_deepestThatWakes_11 : decode cX6_deepestThatWakes 11 = .ok (.iload_n 2, 1) := by decide +kernel
theorem dX6_deepestThatWakes_12 : decode cX6_deepestThatWakes 12 = .ok (.if_icmp .gt 5, 3) := by decide +kernel
theorem dX6_deepestThatWakes_15 : decode cX6_deepestThatWakes 15 = .ok (.iload_n 3, 1) := by decide +kernel
theorem dX6_deepestThatWakes_16 : decode cX6_deepestThatWakes 16 = .ok (.ireturn, 1) := by decide +kernel
theorem dX6_deepestThatWakes_17 : decode cX6_deepestThatWakes 17 = .ok (.iinc 3 (-1), 3) := by decide +kernel
theorem dX6_deepestThatWakes_20 : decode cX6_deepestThatWakes 20 = .ok (.goto (-18), 3) := by decide +kernel
theorem dX6_deepestThatWakes_23 : decode cX6_deepestThatWakes 23 = .ok (.iconst 0, 1) := by decide +kernel
theorem dX6_deepestThatWakes_24 : decode cX6_deepestThatWakes 24 = .ok (.ireturn, 1) := by decide +kernel
theorem dX6_deepestWorthwhile_0 : decode cX6_deepestWorthwhile 0 = .ok (.iload_n 1, 1) := by decide +kernel
theorem dX6_deepestWorthwhile_1 : decode cX6_deepestWorthwhile 1 = .ok (.istore_n 3, 1) := by decide +kernel
theorem dX6_deepestWorthwhile_2 : decode cX6_deepestWorthwhile 2 = .ok (.iload_n 3, 1) := by decide +kernel
theorem dX6_deepestWorthwhile_3 : decode cX6_deepestWorthwhile 3 = .ok (.ifCond .le 30, 3) := by decide +kernel
theorem dX6_deepestWorthwhile_6 : decode cX6_deepestWorthwhile 6 = .ok (.aload_n 0, 1) := by decide +kernel
theorem dX6_deepestWorthwhile_7 : decode cX6_deepestWorthwhile 7 = .ok (.iload_n 3, 1) := by decide +kernel
theorem dX6_deepestWorthwhile_8 : decode cX6_deepestWorthwhile 8 = .ok (.invokevirtual 42, 3) := by decide +kernel
theorem dX6_deepestWorthwhile_11 : decode cX6_deepestWorthwhile 11 = .ok (.istore 4, 2) := by decide +kernel
theorem dX6_deepestWorthwhile_13 : decode cX6_deepestWorthwhile 13 = .ok (.iload 4, 2) := by decide +kernel
theorem dX6_deepestWorthwhile_15 : decode cX6_deepestWorthwhile 15 = .ok (.iconst (-1), 1) := by decide +kernel
theorem dX6_deepestWorthwhile_16 : decode cX6_deepestWorthwhile 16 = .ok (.if_icmp .eq 11, 3) := by decide +kernel
theorem dX6_deepestWorthwhile_19 : decode cX6_deepestWorthwhile 19 = .ok (.iload 4, 2) := by decide +kernel
theorem dX6_deepestWorthwhile_21 : decode cX6_deepestWorthwhile 21 = .ok (.iload_n 2, 1) := by decide +kernel
theorem dX6_deepestWorthwhile_22 : decode cX6_deepestWorthwhile 22 = .ok (.if_icmp .gt 5, 3) := by decide +kernel
theorem dX6_deepestWorthwhile_25 : decode cX6_deepestWorthwhile 25 = .ok (.iload_n 3, 1) := by decide +kernel
theorem dX6_deepestWorthwhile_26 : decode cX6_deepestWorthwhile 26 = .ok (.ireturn, 1) := by decide +kernel
theorem dX6_deepestWorthwhile_27 : decode cX6_deepestWorthwhile 27 = .ok (.iinc 3 (-1), 3) := by decide +kernel
theorem dX6_deepestWorthwhile_30 : decode cX6_deepestWorthwhile 30 = .ok (.goto (-28), 3) := by decide +kernel
theorem dX6_deepestWorthwhile_33 : decode cX6_deepestWorthwhile 33 = .ok (.iconst 0, 1) := by decide +kernel
theorem dX6_deepestWorthwhile_34 : decode cX6_deepestWorthwhile 34 = .ok (.ireturn, 1) := by decide +kernel
theorem dX6_plannedIdleCost_0 : decode cX6_plannedIdleCost 0 = .ok (.aload_n 0, 1) := by decide +kernel
theorem dX6_plannedIdleCost_1 : decode cX6_plannedIdleCost 1 = .ok (.aload_n 0, 1) := by decide +kernel
theorem dX6_plannedIdleCost_2 : decode cX6_plannedIdleCost 2 = .ok (.iload_n 1, 1) := by decide +kernel
theorem dX6_plannedIdleCost_3 : decode cX6_plannedIdleCost 3 = .ok (.iload_n 2, 1) := by decide +kernel
theorem dX6_plannedIdleCost_4 : decode cX6_plannedIdleCost 4 = .ok (.invokevirtual 45, 3) := by decide +kernel
theorem dX6_plannedIdleCost_7 : decode cX6_plannedIdleCost 7 = .ok (.iload_n 2, 1) := by decide +kernel
theorem dX6_plannedIdleCost_8 : decode cX6_plannedIdleCost 8 = .ok (.invokevirtual 49, 3) := by decide +kernel
theorem dX6_plannedIdleCost_11 : decode cX6_plannedIdleCost 11 = .ok (.ireturn, 1) := by decide +kernel
theorem dX6_leastIdleCost_0 : decode cX6_leastIdleCost 0 = .ok (.aload_n 0, 1) := by decide +kernel
theorem dX6_leastIdleCost_1 : decode cX6_leastIdleCost 1 = .ok (.iconst 0, 1) := by decide +kernel
theorem dX6_leastIdleCost_2 : decode cX6_leastIdleCost 2 = .ok (.iload_n 2, 1) := by decide +kernel
theorem dX6_leastIdleCost_3 : decode cX6_leastIdleCost 3 = .ok (.invokevirtual 49, 3) := by decide +kernel
theorem dX6_leastIdleCost_6 : decode cX6_leastIdleCost 6 = .ok (.istore_n 3, 1) := by decide +kernel
theorem dX6_leastIdleCost_7 : decode cX6_leastIdleCost 7 = .ok (.iload_n 1, 1) := by decide +kernel
theorem dX6_leastIdleCost_8 : decode cX6_leastIdleCost 8 = .ok (.istore 4, 2) := by decide +kernel
theorem dX6_leastIdleCost_10 : decode cX6_leastIdleCost 10 = .ok (.iload 4, 2) := by decide +kernel
theorem dX6_leastIdleCost_12 : decode cX6_leastIdleCost 12 = .ok (.ifCond .le 31, 3) := by decide +kernel
theorem dX6_leastIdleCost_15 : decode cX6_leastIdleCost 15 = .ok (.aload_n 0, 1) := by decide +kernel
theorem dX6_leastIdleCost_16 : decode cX6_leastIdleCost 16 = .ok (.iload 4, 2) := by decide +kernel
theorem dX6_leastIdleCost_18 : decode cX6_leastIdleCost 18 = .ok (.invokevirtual 33, 3) := by decide +kernel
theorem dX6_leastIdleCost_21 : decode cX6_leastIdleCost 21 = .ok (.iload_n 2, 1) := by decide +kernel
theorem dX6_leastIdleCost_22 : decode cX6_leastIdleCost 22 = .ok (.if_icmp .gt 15, 3) := by decide +kernel
theorem dX6_leastIdleCost_25 : decode cX6_leastIdleCost 25 = .ok (.iload_n 3, 1) := by decide +kernel
theorem dX6_leastIdleCost_26 : decode cX6_leastIdleCost 26 = .ok (.aload_n 0, 1) := by decide +kernel
theorem dX6_leastIdleCost_27 : decode cX6_leastIdleCost 27 = .ok (.iload 4, 2) := by decide +kernel
theorem dX6_leastIdleCost_29 : decode cX6_leastIdleCost 29 = .ok (.iload_n 2, 1) := by decide +kernel
theorem dX6_leastIdleCost_30 : decode cX6_leastIdleCost 30 = .ok (.invokevirtual 49, 3) := by decide +kernel
theorem dX6_leastIdleCost_33 : decode cX6_leastIdleCost 33 = .ok (.invokestatic 52, 3) := by decide +kernel
theorem dX6_leastIdleCost_36 : decode cX6_leastIdleCost 36 = .ok (.istore_n 3, 1) := by decide +kernel
theorem dX6_leastIdleCost_37 : decode cX6_leastIdleCost 37 = .ok (.iinc 4 (-1), 3) := by decide +kernel
theorem dX6_leastIdleCost_40 : decode cX6_leastIdleCost 40 = .ok (.goto (-30), 3) := by decide +kernel
theorem dX6_leastIdleCost_43 : decode cX6_leastIdleCost 43 = .ok (.iload_n 3, 1) := by decide +kernel
theorem dX6_leastIdleCost_44 : decode cX6_leastIdleCost 44 = .ok (.ireturn, 1) := by decide +kernel
theorem dJ9_floorDiv_7cf53_0 : decode cJ9_floorDiv_7cf53 0 = .ok (.iload_n 0, 1) := by decide +kernel
theorem dJ9_floorDiv_7cf53_1 : decode cJ9_floorDiv_7cf53 1 = .ok (.iload_n 1, 1) := by decide +kernel
theorem dJ9_floorDiv_7cf53_2 : decode cJ9_floorDiv_7cf53 2 = .ok (.idiv, 1) := by decide +kernel
theorem dJ9_floorDiv_7cf53_3 : decode cJ9_floorDiv_7cf53 3 = .ok (.istore_n 2, 1) := by decide +kernel
theorem dJ9_floorDiv_7cf53_4 : decode cJ9_floorDiv_7cf53 4 = .ok (.iload_n 0, 1) := by decide +kernel
theorem dJ9_floorDiv_7cf53_5 : decode cJ9_floorDiv_7cf53 5 = .ok (.iload_n 1, 1) := by decide +kernel
theorem dJ9_floorDiv_7cf53_6 : decode cJ9_floorDiv_7cf53 6 = .ok (.ixor, 1) := by decide +kernel
theorem dJ9_floorDiv_7cf53_7 : decode cJ9_floorDiv_7cf53 7 = .ok (.ifCond .ge 14, 3) := by decide +kernel
theorem dJ9_floorDiv_7cf53_10 : decode cJ9_floorDiv_7cf53 10 = .ok (.iload_n 2, 1) := by decide +kernel
theorem dJ9_floorDiv_7cf53_11 : decode cJ9_floorDiv_7cf53 11 = .ok (.iload_n 1, 1) := by decide +kernel
theorem dJ9_floorDiv_7cf53_12 : decode cJ9_floorDiv_7cf53 12 = .ok (.imul, 1) := by decide +kernel
theorem dJ9_floorDiv_7cf53_13 : decode cJ9_floorDiv_7cf53 13 = .ok (.iload_n 0, 1) := by decide +kernel
theorem dJ9_floorDiv_7cf53_14 : decode cJ9_floorDiv_7cf53 14 = .ok (.if_icmp .eq 7, 3) := by decide +kernel
theorem dJ9_floorDiv_7cf53_17 : decode cJ9_floorDiv_7cf53 17 = .ok (.iload_n 2, 1) := by decide +kernel
theorem dJ9_floorDiv_7cf53_18 : decode cJ9_floorDiv_7cf53 18 = .ok (.iconst 1, 1) := by decide +kernel
theorem dJ9_floorDiv_7cf53_19 : decode cJ9_floorDiv_7cf53 19 = .ok (.isub, 1) := by decide +kernel
theorem dJ9_floorDiv_7cf53_20 : decode cJ9_floorDiv_7cf53 20 = .ok (.ireturn, 1) := by decide +kernel
theorem dJ9_floorDiv_7cf53_21 : decode cJ9_floorDiv_7cf53 21 = .ok (.iload_n 2, 1) := by decide +kernel
theorem dJ9_floorDiv_7cf53_22 : decode cJ9_floorDiv_7cf53 22 = .ok (.ireturn, 1) := by decide +kernel
theorem dJ9_floorMod_7cf53_0 : decode cJ9_floorMod_7cf53 0 = .ok (.iload_n 0, 1) := by decide +kernel
theorem dJ9_floorMod_7cf53_1 : decode cJ9_floorMod_7cf53 1 = .ok (.iload_n 1, 1) := by decide +kernel
theorem dJ9_floorMod_7cf53_2 : decode cJ9_floorMod_7cf53 2 = .ok (.irem, 1) := by decide +kernel
theorem dJ9_floorMod_7cf53_3 : decode cJ9_floorMod_7cf53 3 = .ok (.istore_n 2, 1) := by decide +kernel
theorem dJ9_floorMod_7cf53_4 : decode cJ9_floorMod_7cf53 4 = .ok (.iload_n 0, 1) := by decide +kernel
theorem dJ9_floorMod_7cf53_5 : decode cJ9_floorMod_7cf53 5 = .ok (.iload_n 1, 1) := by decide +kernel
theorem dJ9_floorMod_7cf53_6 : decode cJ9_floorMod_7cf53 6 = .ok (.ixor, 1) := by decide +kernel
theorem dJ9_floorMod_7cf53_7 : decode cJ9_floorMod_7cf53 7 = .ok (.ifCond .ge 11, 3) := by decide +kernel
theorem dJ9_floorMod_7cf53_10 : decode cJ9_floorMod_7cf53 10 = .ok (.iload_n 2, 1) := by decide +kernel
theorem dJ9_floorMod_7cf53_11 : decode cJ9_floorMod_7cf53 11 = .ok (.ifCond .eq 7, 3) := by decide +kernel
theorem dJ9_floorMod_7cf53_14 : decode cJ9_floorMod_7cf53 14 = .ok (.iload_n 2, 1) := by decide +kernel
theorem dJ9_floorMod_7cf53_15 : decode cJ9_floorMod_7cf53 15 = .ok (.iload_n 1, 1) := by decide +kernel
theorem dJ9_floorMod_7cf53_16 : decode cJ9_floorMod_7cf53 16 = .ok (.iadd, 1) := by decide +kernel
theorem dJ9_floorMod_7cf53_17 : decode cJ9_floorMod_7cf53 17 = .ok (.ireturn, 1) := by decide +kernel
theorem dJ9_floorMod_7cf53_18 : decode cJ9_floorMod_7cf53 18 = .ok (.iload_n 2, 1) := by decide +kernel
theorem dJ9_floorMod_7cf53_19 : decode cJ9_floorMod_7cf53 19 = .ok (.ireturn, 1) := by decide +kernel
theorem dJ9_max_7cf53_0 : decode cJ9_max_7cf53 0 = .ok (.iload_n 0, 1) := by decide +kernel
theorem dJ9_max_7cf53_1 : decode cJ9_max_7cf53 1 = .ok (.iload_n 1, 1) := by decide +kernel
theorem dJ9_max_7cf53_2 : decode cJ9_max_7cf53 2 = .ok (.if_icmp .lt 7, 3) := by decide +kernel
theorem dJ9_max_7cf53_5 : decode cJ9_max_7cf53 5 = .ok (.iload_n 0, 1) := by decide +kernel
theorem dJ9_max_7cf53_6 : decode cJ9_max_7cf53 6 = .ok (.goto 4, 3) := by decide +kernel
theorem dJ9_max_7cf53_9 : decode cJ9_max_7cf53 9 = .ok (.iload_n 1, 1) := by decide +kernel
theorem dJ9_max_7cf53_10 : decode cJ9_max_7cf53 10 = .ok (.ireturn, 1) := by decide +kernel
theorem dJ9_max_f86c9_0 : decode cJ9_max_f86c9 0 = .ok (.lload_n 0, 1) := by decide +kernel
theorem dJ9_max_f86c9_1 : decode cJ9_max_f86c9 1 = .ok (.lload_n 2, 1) := by decide +kernel
theorem dJ9_max_f86c9_2 : decode cJ9_max_f86c9 2 = .ok (.lcmp, 1) := by decide +kernel
theorem dJ9_max_f86c9_3 : decode cJ9_max_f86c9 3 = .ok (.ifCond .lt 7, 3) := by decide +kernel
theorem dJ9_max_f86c9_6 : decode cJ9_max_f86c9 6 = .ok (.lload_n 0, 1) := by decide +kernel
theorem dJ9_max_f86c9_7 : decode cJ9_max_f86c9 7 = .ok (.goto 4, 3) := by decide +kernel
theorem dJ9_max_f86c9_10 : decode cJ9_max_f86c9 10 = .ok (.lload_n 2, 1) := by decide +kernel
theorem dJ9_max_f86c9_11 : decode cJ9_max_f86c9 11 = .ok (.lreturn, 1) := by decide +kernel
theorem dJ9_min_7cf53_0 : decode cJ9_min_7cf53 0 = .ok (.iload_n 0, 1) := by decide +kernel
theorem dJ9_min_7cf53_1 : decode cJ9_min_7cf53 1 = .ok (.iload_n 1, 1) := by decide +kernel
theorem dJ9_min_7cf53_2 : decode cJ9_min_7cf53 2 = .ok (.if_icmp .gt 7, 3) := by decide +kernel
theorem dJ9_min_7cf53_5 : decode cJ9_min_7cf53 5 = .ok (.iload_n 0, 1) := by decide +kernel
theorem dJ9_min_7cf53_6 : decode cJ9_min_7cf53 6 = .ok (.goto 4, 3) := by decide +kernel
theorem dJ9_min_7cf53_9 : decode cJ9_min_7cf53 9 = .ok (.iload_n 1, 1) := by decide +kernel
theorem dJ9_min_7cf53_10 : decode cJ9_min_7cf53 10 = .ok (.ireturn, 1) := by decide +kernel
theorem dJ9_min_f86c9_0 : decode cJ9_min_f86c9 0 = .ok (.lload_n 0, 1) := by decide +kernel
theorem dJ9_min_f86c9_1 : decode cJ9_min_f86c9 1 = .ok (.lload_n 2, 1) := by decide +kernel
theorem dJ9_min_f86c9_2 : decode cJ9_min_f86c9 2 = .ok (.lcmp, 1) := by decide +kernel
theorem dJ9_min_f86c9_3 : decode cJ9_min_f86c9 3 = .ok (.ifCond .gt 7, 3) := by decide +kernel
theorem dJ9_min_f86c9_6 : decode cJ9_min_f86c9 6 = .ok (.lload_n 0, 1) := by decide +kernel
theorem dJ9_min_f86c9_7 : decode cJ9_min_f86c9 7 = .ok (.goto 4, 3) := by decide +kernel
theorem dJ9_min_f86c9_10 : decode cJ9_min_f86c9 10 = .ok (.lload_n 2, 1) := by decide +kernel
theorem dJ9_min_f86c9_11 : decode cJ9_min_f86c9 11 = .ok (.lreturn, 1) := by decide +kernel
end
section
theorem dX7_init_0 : decode cX7_init 0 = .ok (.aload_n 0, 1) := by decide +kernel
theorem dX7_init_1 : decode cX7_init 1 = .ok (.invokespecial 1, 3) := by decide +kernel
theorem dX7_init_4 : decode cX7_init 4 = .ok (.aload_n 0, 1) := by decide +kernel
theorem dX7_init_5 : decode cX7_init 5 = .ok (.new 7, 3) := by decide +kernel
theorem dX7_init_8 : decode cX7_init 8 = .ok (.dup, 1) := by decide +kernel
theorem dX7_init_9 : decode cX7_init 9 = .ok (.invokespecial 9, 3) := by decide +kernel
theorem dX7_init_12 : decode cX7_init 12 = .ok (.putfield 10, 3) := by decide +kernel
theorem dX7_init_15 : decode cX7_init 15 = .ok (.aload_n 0, 1) := by decide +kernel
theorem dX7_init_16 : decode cX7_init 16 = .ok (.bipush 6, 2) := by decide +kernel
theorem dX7_init_18 : decode cX7_init 18 = .ok (.newarray .int, 2) := by decide +kernel
theorem dX7_init_20 : decode cX7_init 20 = .ok (.dup, 1) := by decide +kernel
theorem dX7_init_21 : decode cX7_init 21 = .ok (.iconst 0, 1) := by decide +kernel
theorem dX7_init_22 : decode cX7_init 22 = .ok (.iconst 3, 1) := by decide +kernel
theorem dX7_init_23 : decode cX7_init 23 = .ok (.iastore, 1) := by decide +kernel
theorem dX7_init_24 : decode cX7_init 24 = .ok (.dup, 1) := by decide +kernel
theorem dX7_init_25 : decode cX7_init 25 = .ok (.iconst 1, 1) := by decide +kernel
theorem dX7_init_26 : decode cX7_init 26 = .ok (.iconst 3, 1) := by decide +kernel
theorem dX7_init_27 : decode cX7_init 27 = .ok (.iastore, 1) := by decide +kernel
theorem dX7_init_28 : decode cX7_init 28 = .ok (.dup, 1) := by decide +kernel
theorem dX7_init_29 : decode cX7_init 29 = .ok (.iconst 2, 1) := by decide +kernel
theorem dX7_init_30 : decode cX7_init 30 = .ok (.iconst 3, 1) := by decide +kernel
theorem dX7_init_31 : decode cX7_init 31 = .ok (.iastore, 1) := by decide +kernel
theorem dX7_init_32 : decode cX7_init 32 = .ok (.dup, 1) := by decide +kernel
theorem dX7_init_33 : decode cX7_init 33 = .ok (.iconst 3, 1) := by decide +kernel
theorem dX7_init_34 : decode cX7_init 34 = .ok (.iconst 3, 1) := by decide +kernel
theorem dX7_init_35 : decode cX7_init 35 = .ok (.iastore, 1) := by decide +kernel
theorem dX7_init_36 : decode cX7_init 36 = .ok (.dup, 1) := by decide +kernel
theorem dX7_init_37 : decode cX7_init 37 = .ok (.iconst 4, 1) := by decide +kernel
theorem dX7_init_38 : decode cX7_init 38 = .ok (.iconst 3, 1) := by decide +kernel
theorem dX7_init_39 : decode cX7_init 39 = .ok (.iastore, 1) := by decide +kernel
theorem dX7_init_40 : decode cX7_init 40 = .ok (.dup, 1) := by decide +kernel
theorem dX7_init_41 : decode cX7_init 41 = .ok (.iconst 5, 1) := by decide +kernel
theorem dX7_init_42 : decode cX7_init 42 = .ok (.iconst 3, 1) := by decide +kernel
theorem dX7_init_43 : decode cX7_init 43 = .ok (.iastore, 1) := by decide +kernel
theorem dX7_init_44 : decode cX7_init 44 = .ok (.putfield 16, 3) := by decide +kernel
theorem dX7_init_47 : decode cX7_init 47 = .ok (.aload_n 0, 1) := by decide +kernel
theorem dX7_init_48 : decode cX7_init 48 = .ok (.new 20, 3) := by decide +kernel
theorem dX7_init_51 : decode cX7_init 51 = .ok (.dup, 1) := by decide +kernel
theorem dX7_init_52 : decode cX7_init 52 = .ok (.invokespecial 22, 3) := by decide +kernel
theorem dX7_init_55 : decode cX7_init 55 = .ok (.putfield 23, 3) := by decide +kernel
theorem dX7_init_58 : decode cX7_init 58 = .ok (.aload_n 0, 1) := by decide +kernel
theorem dX7_init_59 : decode cX7_init 59 = .ok (.new 27, 3) := by decide +kernel
theorem dX7_init_62 : decode cX7_init 62 = .ok (.dup, 1) := by decide +kernel
theorem dX7_init_63 : decode cX7_init 63 = .ok (.invokespecial 29, 3) := by decide +kernel
theorem dX7_init_66 : decode cX7_init 66 = .ok (.putfield 30, 3) := by decide +kernel
theorem dX7_init_69 : decode cX7_init 69 = .ok (.aload_n 0, 1) := by decide +kernel
theorem dX7_init_70 : decode cX7_init 70 = .ok (.new 27, 3) := by decide +kernel
theorem dX7_init_73 : decode cX7_init 73 = .ok (.dup, 1) := by decide +kernel
theorem dX7_init_74 : decode cX7_init 74 = .ok (.invokespecial 29, 3) := by decide +kernel
theorem dX7_init_77 : decode cX7_init 77 = .ok (.putfield 34, 3) := by decide +kernel
theorem dX7_init_80 : decode cX7_init 80 = .ok (.aload_n 0, 1) := by decide +kernel
theorem dX7_init_81 : decode cX7_init 81 = .ok (.new 37, 3) := by decide +kernel
theorem dX7_init_84 : decode cX7_init 84 = .ok (.dup, 1) := by decide +kernel
theorem dX7_init_85 : decode cX7_init 85 = .ok (.invokespecial 39, 3) := by decide +kernel
theorem dX7_init_88 : decode cX7_init 88 = .ok (.putfield 40, 3) := by decide +kernel
theorem dX7_init_91 : decode cX7_init 91 = .ok (.aload_n 0, 1) := by decide +kernel
theorem dX7_init_92 : decode cX7_init 92 = .ok (.new 44, 3) := by decide +kernel
theorem dX7_init_95 : decode cX7_init 95 = .ok (.dup, 1) := by decide +kernel
theorem dX7_init_96 : decode cX7_init 96 = .ok (.invokespecial 46, 3) := by decide +kernel
theorem dX7_init_99 : decode cX7_init 99 = .ok (.putfield 47, 3) := by decide +kernel
theorem dX7_init_102 : decode cX7_init 102 = .ok (.aload_n 0, 1) := by decide +kernel
theorem dX7_init_103 : decode cX7_init 103 = .ok (.new 51, 3) := by decide +kernel
theorem dX7_init_106 : decode cX7_init 106 = .ok (.dup, 1) := by decide +kernel
theorem dX7_init_107 : decode cX7_init 107 = .ok (.invokespecial 53, 3) := by decide +kernel
theorem dX7_init_110 : decode cX7_init 110 = .ok (.putfield 54, 3) := by decide +kernel
theorem dX7_init_113 : decode cX7_init 113 = .ok (.aload_n 0, 1) := by decide +kernel
theorem dX7_init_114 : decode cX7_init 114 = .ok (.new 58, 3) := by decide +kernel
theorem dX7_init_117 : decode cX7_init 117 = .ok (.dup, 1) := by decide +kernel
theorem dX7_init_118 : decode cX7_init 118 = .ok (.invokespecial 60, 3) := by decide +kernel
theorem dX7_init_121 : decode cX7_init 121 = .ok (.putfield 61, 3) := by decide +kernel
theorem dX7_init_124 : decode cX7_init 124 = .ok (.aload_n 0, 1) := by decide +kernel
theorem dX7_init_125 : decode cX7_init 125 = .ok (.iconst 1, 1) := by decide +kernel
theorem dX7_init_126 : decode cX7_init 126 = .ok (.putfield 65, 3) := by decide +kernel
theorem dX7_init_129 : decode cX7_init 129 = .ok (.aload_n 0, 1) := by decide +kernel
theorem dX7_init_130 : decode cX7_init 130 = .ok (.iconst 0, 1) := by decide +kernel
theorem dX7_init_131 : decode cX7_init 131 = .ok (.putfield 69, 3) := by decide +kernel
theorem dX7_init_134 : decode cX7_init 134 = .ok (.aload_n 0, 1) := by decide +kernel
theorem dX7_init_135 : decode cX7_init 135 = .ok (.iconst 0, 1) := by decide +kernel
theorem dX7_init_136 : decode cX7_init 136 = .ok (.putfield 72, 3) := by decide +kernel
theorem dX7_init_139 : decode cX7_init 139 = .ok (.aload_n 0, 1) := by decide +kernel
theorem dX7_init_140 : decode cX7_init 140 = .ok (.iconst 0, 1) := by decide +kernel
theorem dX7_init_141 : decode cX7_init 141 = .ok (.putfield 75, 3) := by decide +kernel
theorem dX7_init_144 : decode cX7_init 144 = .ok (.return_, 1) := by decide +kernel
theorem dX7_setState_0 : decode cX7_setState 0 = .ok (.iload_n 1, 1) := by decide +kernel
theorem dX7_setState_1 : decode cX7_setState 1 = .ok (.iconst 1, 1) := by decide +kernel
theorem dX7_setState_2 : decode cX7_setState 2 = .ok (.iconst 3, 1) := by decide +kernel
theorem dX7_setState_3 : decode cX7_setState 3 = .ok (.invokestatic 78, 3) := by decide +kernel
theorem dX7_setState_6 : decode cX7_setState 6 = .ok (.ifCond .eq 36, 3) := by decide +kernel
theorem dX7_setState_9 : decode cX7_setState 9 = .ok (.iload_n 2, 1) := by decide +kernel
theorem dX7_setState_10 : decode cX7_setState 10 = .ok (.iconst 0, 1) := by decide +kernel
theorem dX7_setState_11 : decode cX7_setState 11 = .ok (.sipush 1000, 3) := by decide +kernel
theorem dX7_setState_14 : decode cX7_setState 14 = .ok (.invokestatic 78, 3) := by decide +kernel
theorem dX7_setState_17 : decode cX7_setState 17 = .ok (.ifCond .eq 25, 3) := by decide +kernel
theorem dX7_setState_20 : decode cX7_setState 20 = .ok (.iload_n 3, 1) := by decide +kernel
theorem dX7_setState_21 : decode cX7_setState 21 = .ok (.iconst 0, 1) := by decide +kernel
theorem dX7_setState_22 : decode cX7_setState 22 = .ok (.sipush 10000, 3) := by decide +kernel
theorem dX7_setState_25 : decode cX7_setState 25 = .ok (.invokestatic 78, 3) := by decide +kernel
theorem dX7_setState_28 : decode cX7_setState 28 = .ok (.ifCond .eq 14, 3) := by decide +kernel
theorem dX7_setState_31 : decode cX7_setState 31 = .ok (.iload 4, 2) := by decide +kernel
theorem dX7_setState_33 : decode cX7_setState 33 = .ok (.iconst 0, 1) := by decide +kernel
theorem dX7_setState_34 : decode cX7_setState 34 = .ok (.bipush 100, 2) := by decide +kernel
theorem dX7_setState_36 : decode cX7_setState 36 = .ok (.invokestatic 78, 3) := by decide +kernel
theorem dX7_setState_39 : decode cX7_setState 39 = .ok (.ifCond .ne 13, 3) := by decide +kernel
theorem dX7_setState_42 : decode cX7_setState 42 = .ok (.new 82, 3) := by decide +kernel
theorem dX7_setState_45 : decode cX7_setState 45 = .ok (.dup, 1) := by decide +kernel
theorem dX7_setState_46 : decode cX7_setState 46 = .ok (.ldc 84, 2) := by decide +kernel
theorem dX7_setState_48 : decode cX7_setState 48 = .ok (.invokespecial 86, 3) := by decide +kernel
theorem dX7_setState_51 : decode cX7_setState 51 = .ok (.athrow, 1) := by decide +kernel
theorem dX7_setState_52 : decode cX7_setState 52 = .ok (.aload_n 0, 1) := by decide +kernel
theorem dX7_setState_53 : decode cX7_setState 53 = .ok (.invokevirtual 89, 3) := by decide +kernel
theorem dX7_setState_56 : decode cX7_setState 56 = .ok (.aload_n 0, 1) := by decide +kernel
theorem dX7_setState_57 : decode cX7_setState 57 = .ok (.getfield 10, 3) := by decide +kernel
theorem dX7_setState_60 : decode cX7_setState 60 = .ok (.iload_n 1, 1) := by decide +kernel
theorem dX7_setState_61 : decode cX7_setState 61 = .ok (.iload_n 2, 1) := by decide +kernel
theorem dX7_setState_62 : decode cX7_setState 62 = .ok (.iload_n 3, 1) := by decide +kernel
theorem dX7_setState_63 : decode cX7_setState 63 = .ok (.iload 4, 2) := by decide +kernel
theorem dX7_setState_65 : decode cX7_setState 65 = .ok (.invokevirtual 92, 3) := by decide +kernel
theorem dX7_setState_68 : decode cX7_setState 68 = .ok (.return_, 1) := by decide +kernel
theorem dX7_setAwake_0 : decode cX7_setAwake 0 = .ok (.iload_n 1, 1) := by decide +kernel
theorem dX7_setAwake_1 : decode cX7_setAwake 1 = .ok (.iconst 0, 1) := by decide +kernel
theorem dX7_setAwake_2 : decode cX7_setAwake 2 = .ok (.sipush 1000, 3) := by decide +kernel
theorem dX7_setAwake_5 : decode cX7_setAwake 5 = .ok (.invokestatic 78, 3) := by decide +kernel
theorem dX7_setAwake_8 : decode cX7_setAwake 8 = .ok (.ifCond .ne 13, 3) := by decide +kernel
theorem dX7_setAwake_11 : decode cX7_setAwake 11 = .ok (.new 82, 3) := by decide +kernel
theorem dX7_setAwake_14 : decode cX7_setAwake 14 = .ok (.dup, 1) := by decide +kernel
theorem dX7_setAwake_15 : decode cX7_setAwake 15 = .ok (.ldc 96, 2) := by decide +kernel
theorem dX7_setAwake_17 : decode cX7_setAwake 17 = .ok (.invokespecial 86, 3) := by decide +kernel
theorem dX7_setAwake_20 : decode cX7_setAwake 20 = .ok (.athrow, 1) := by decide +kernel
theorem dX7_setAwake_21 : decode cX7_setAwake 21 = .ok (.aload_n 0, 1) := by decide +kernel
theorem dX7_setAwake_22 : decode cX7_setAwake 22 = .ok (.invokevirtual 89, 3) := by decide +kernel
theorem dX7_setAwake_25 : decode cX7_setAwake 25 = .ok (.aload_n 0, 1) := by decide +kernel
theorem dX7_setAwake_26 : decode cX7_setAwake 26 = .ok (.getfield 10, 3) := by decide +kernel
theorem dX7_setAwake_29 : decode cX7_setAwake 29 = .ok (.iconst 0, 1) := by decide +kernel
theorem dX7_setAwake_30 : decode cX7_setAwake 30 = .ok (.invokevirtual 98, 3) := by decide +kernel
theorem dX7_setAwake_33 : decode cX7_setAwake 33 = .ok (.istore_n 2, 1) := by decide +kernel
theorem dX7_setAwake_34 : decode cX7_setAwake 34 = .ok (.aload_n 0, 1) := by decide +kernel
theorem dX7_setAwake_35 : decode cX7_setAwake 35 = .ok (.getfield 10, 3) := by decide +kernel
theorem dX7_setAwake_38 : decode cX7_setAwake 38 = .ok (.iconst 0, 1) := by decide +kernel
theorem dX7_setAwake_39 : decode cX7_setAwake 39 = .ok (.iload_n 1, 1) := by decide +kernel
theorem dX7_setAwake_40 : decode cX7_setAwake 40 = .ok (.iconst 0, 1) := by decide +kernel
theorem dX7_setAwake_41 : decode cX7_setAwake 41 = .ok (.iconst 0, 1) := by decide +kernel
theorem dX7_setAwake_42 : decode cX7_setAwake 42 = .ok (.invokevirtual 92, 3) := by decide +kernel
theorem dX7_setAwake_45 : decode cX7_setAwake 45 = .ok (.iload_n 2, 1) := by decide +kernel
theorem dX7_setAwake_46 : decode cX7_setAwake 46 = .ok (.ireturn, 1) := by decide +kernel
theorem dX7_vote_0 : decode cX7_vote 0 = .ok (.iload_n 1, 1) := by decide +kernel
theorem dX7_vote_1 : decode cX7_vote 1 = .ok (.iconst 0, 1) := by decide +kernel
theorem dX7_vote_2 : decode cX7_vote 2 = .ok (.iconst 5, 1) := by decide +kernel
theorem dX7_vote_3 : decode cX7_vote 3 = .ok (.invokestatic 78, 3) := by decide +kernel
theorem dX7_vote_6 : decode cX7_vote 6 = .ok (.ifCond .eq 12, 3) := by decide +kernel
theorem dX7_vote_9 : decode cX7_vote 9 = .ok (.iload_n 2, 1) := by decide +kernel
theorem dX7_vote_10 : decode cX7_vote 10 = .ok (.iconst 0, 1) := by decide +kernel
theorem dX7_vote_11 : decode cX7_vote 11 = .ok (.iconst 3, 1) := by decide +kernel
theorem dX7_vote_12 : decode cX7_vote 12 = .ok (.invokestatic 78, 3) := by decide +kernel
theorem dX7_vote_15 : decode cX7_vote 15 = .ok (.ifCond .ne 13, 3) := by decide +kernel
theorem dX7_vote_18 : decode cX7_vote 18 = .ok (.new 82, 3) := by decide +kernel
theorem dX7_vote_21 : decode cX7_vote 21 = .ok (.dup, 1) := by decide +kernel
theorem dX7_vote_22 : decode cX7_vote 22 = .ok (.ldc 102, 2) := by decide +kernel
theorem dX7_vote_24 : decode cX7_vote 24 = .ok (.invokespecial 86, 3) := by decide +kernel
theorem dX7_vote_27 : decode cX7_vote 27 = .ok (.athrow, 1) := by decide +kernel
theorem dX7_vote_28 : decode cX7_vote 28 = .ok (.aload_n 0, 1) := by decide +kernel
theorem dX7_vote_29 : decode cX7_vote 29 = .ok (.invokevirtual 89, 3) := by decide +kernel
theorem dX7_vote_32 : decode cX7_vote 32 = .ok (.aload_n 0, 1) := by decide +kernel
theorem dX7_vote_33 : decode cX7_vote 33 = .ok (.getfield 16, 3) := by decide +kernel
theorem dX7_vote_36 : decode cX7_vote 36 = .ok (.iload_n 1, 1) := by decide +kernel
theorem dX7_vote_37 : decode cX7_vote 37 = .ok (.iload_n 2, 1) := by decide +kernel
theorem dX7_vote_38 : decode cX7_vote 38 = .ok (.invokestatic 104, 3) := by decide +kernel
theorem dX7_vote_41 : decode cX7_vote 41 = .ok (.ireturn, 1) := by decide +kernel
theorem dX7_addClock_0 : decode cX7_addClock 0 = .ok (.aload_n 0, 1) := by decide +kernel
theorem dX7_addClock_1 : decode cX7_addClock 1 = .ok (.getfield 23, 3) := by decide +kernel
theorem dX7_addClock_4 : decode cX7_addClock 4 = .ok (.iload_n 1, 1) := by decide +kernel
theorem dX7_addClock_5 : decode cX7_addClock 5 = .ok (.invokevirtual 108, 3) := by decide +kernel
theorem dX7_addClock_8 : decode cX7_addClock 8 = .ok (.ifCond .ne 13, 3) := by decide +kernel
theorem dX7_addClock_11 : decode cX7_addClock 11 = .ok (.new 112, 3) := by decide +kernel
theorem dX7_addClock_14 : decode cX7_addClock 14 = .ok (.dup, 1) := by decide +kernel
theorem dX7_addClock_15 : decode cX7_addClock 15 = .ok (.ldc 114, 2) := by decide +kernel
theorem dX7_addClock_17 : decode cX7_addClock 17 = .ok (.invokespecial 116, 3) := by decide +kernel
theorem dX7_addClock_20 : decode cX7_addClock 20 = .ok (.athrow, 1) := by decide +kernel
theorem dX7_addClock_21 : decode cX7_addClock 21 = .ok (.iload_n 2, 1) := by decide +kernel
theorem dX7_addClock_22 : decode cX7_addClock 22 = .ok (.iconst 1, 1) := by decide +kernel
theorem dX7_addClock_23 : decode cX7_addClock 23 = .ok (.bipush 64, 2) := by decide +kernel
theorem dX7_addClock_25 : decode cX7_addClock 25 = .ok (.invokestatic 78, 3) := by decide +kernel
theorem dX7_addClock_28 : decode cX7_addClock 28 = .ok (.ifCond .eq 12, 3) := by decide +kernel
theorem dX7_addClock_31 : decode cX7_addClock 31 = .ok (.iload_n 3, 1) := by decide +kernel
theorem dX7_addClock_32 : decode cX7_addClock 32 = .ok (.iconst 0, 1) := by decide +kernel
theorem dX7_addClock_33 : decode cX7_addClock 33 = .ok (.iconst 3, 1) := by decide +kernel
theorem dX7_addClock_34 : decode cX7_addClock 34 = .ok (.invokestatic 78, 3) := by decide +kernel
theorem dX7_addClock_37 : decode cX7_addClock 37 = .ok (.ifCond .ne 13, 3) := by decide +kernel
theorem dX7_addClock_40 : decode cX7_addClock 40 = .ok (.new 82, 3) := by decide +kernel
theorem dX7_addClock_43 : decode cX7_addClock 43 = .ok (.dup, 1) := by decide +kernel
theorem dX7_addClock_44 : decode cX7_addClock 44 = .ok (.ldc 117, 2) := by decide +kernel
theorem dX7_addClock_46 : decode cX7_addClock 46 = .ok (.invokespecial 86, 3) := by decide +kernel
theorem dX7_addClock_49 : decode cX7_addClock 49 = .ok (.athrow, 1) := by decide +kernel
theorem dX7_addClock_50 : decode cX7_addClock 50 = .ok (.aload_n 0, 1) := by decide +kernel
theorem dX7_addClock_51 : decode cX7_addClock 51 = .ok (.getfield 23, 3) := by decide +kernel
theorem dX7_addClock_54 : decode cX7_addClock 54 = .ok (.invokevirtual 119, 3) := by decide +kernel
theorem dX7_addClock_57 : decode cX7_addClock 57 = .ok (.ifCond .eq 13, 3) := by decide +kernel
theorem dX7_addClock_60 : decode cX7_addClock 60 = .ok (.new 123, 3) := by decide +kernel
theorem dX7_addClock_63 : decode cX7_addClock 63 = .ok (.dup, 1) := by decide +kernel
theorem dX7_addClock_64 : decode cX7_addClock 64 = .ok (.ldc 125, 2) := by decide +kernel
theorem dX7_addClock_66 : decode cX7_addClock 66 = .ok (.invokespecial 127, 3) := by decide +kernel
theorem dX7_addClock_69 : decode cX7_addClock 69 = .ok (.athrow, 1) := by decide +kernel
theorem dX7_addClock_70 : decode cX7_addClock 70 = .ok (.aload_n 0, 1) := by decide +kernel
theorem dX7_addClock_71 : decode cX7_addClock 71 = .ok (.invokevirtual 89, 3) := by decide +kernel
theorem dX7_addClock_74 : decode cX7_addClock 74 = .ok (.aload_n 0, 1) := by decide +kernel
theorem dX7_addClock_75 : decode cX7_addClock 75 = .ok (.getfield 23, 3) := by decide +kernel
theorem dX7_addClock_78 : decode cX7_addClock 78 = .ok (.iload_n 1, 1) := by decide +kernel
theorem dX7_addClock_79 : decode cX7_addClock 79 = .ok (.iload_n 2, 1) := by decide +kernel
theorem dX7_addClock_80 : decode cX7_addClock 80 = .ok (.iload_n 3, 1) := by decide +kernel
theorem dX7_addClock_81 : decode cX7_addClock 81 = .ok (.invokevirtual 128, 3) := by decide +kernel
theorem dX7_addClock_84 : decode cX7_addClock 84 = .ok (.ireturn, 1) := by decide +kernel
theorem dX7_use_0 : decode cX7_use 0 = .ok (.aload_n 0, 1) := by decide +kernel
theorem dX7_use_1 : decode cX7_use 1 = .ok (.getfield 23, 3) := by decide +kernel
theorem dX7_use_4 : decode cX7_use 4 = .ok (.iload_n 1, 1) := by decide +kernel
theorem dX7_use_5 : decode cX7_use 5 = .ok (.invokevirtual 108, 3) := by decide +kernel
theorem dX7_use_8 : decode cX7_use 8 = .ok (.ifCond .ne 13, 3) := by decide +kernel
theorem dX7_use_11 : decode cX7_use 11 = .ok (.new 112, 3) := by decide +kernel
theorem dX7_use_14 : decode cX7_use 14 = .ok (.dup, 1) := by decide +kernel
theorem dX7_use_15 : decode cX7_use 15 = .ok (.ldc 132, 2) := by decide +kernel
theorem dX7_use_17 : decode cX7_use 17 = .ok (.invokespecial 116, 3) := by decide +kernel
theorem dX7_use_20 : decode cX7_use 20 = .ok (.athrow, 1) := by decide +kernel
theorem dX7_use_21 : decode cX7_use 21 = .ok (.aload_n 0, 1) := by decide +kernel
theorem dX7_use_22 : decode cX7_use 22 = .ok (.getfield 23, 3) := by decide +kernel
theorem dX7_use_25 : decode cX7_use 25 = .ok (.iload_n 1, 1) := by decide +kernel
theorem dX7_use_26 : decode cX7_use 26 = .ok (.invokevirtual 134, 3) := by decide +kernel
theorem dX7_use_29 : decode cX7_use 29 = .ok (.bipush 9, 2) := by decide +kernel
theorem dX7_use_31 : decode cX7_use 31 = .ok (.if_icmp .lt 13, 3) := by decide +kernel
theorem dX7_use_34 : decode cX7_use 34 = .ok (.new 123, 3) := by decide +kernel
theorem dX7_use_37 : decode cX7_use 37 = .ok (.dup, 1) := by decide +kernel
theorem dX7_use_38 : decode cX7_use 38 = .ok (.ldc 137, 2) := by decide +kernel
theorem dX7_use_40 : decode cX7_use 40 = .ok (.invokespecial 127, 3) := by decide +kernel
theorem dX7_use_43 : decode cX7_use 43 = .ok (.athrow, 1) := by decide +kernel
theorem dX7_use_44 : decode cX7_use 44 = .ok (.aload_n 0, 1) := by decide +kernel
theorem dX7_use_45 : decode cX7_use 45 = .ok (.invokevirtual 89, 3) := by decide +kernel
theorem dX7_use_48 : decode cX7_use 48 = .ok (.aload_n 0, 1) := by decide +kernel
theorem dX7_use_49 : decode cX7_use 49 = .ok (.getfield 23, 3) := by decide +kernel
theorem dX7_use_52 : decode cX7_use 52 = .ok (.iload_n 1, 1) := by decide +kernel
theorem dX7_use_53 : decode cX7_use 53 = .ok (.iconst 1, 1) := by decide +kernel
theorem dX7_use_54 : decode cX7_use 54 = .ok (.invokevirtual 139, 3) := by decide +kernel
theorem dX7_use_57 : decode cX7_use 57 = .ok (.ireturn, 1) := by decide +kernel
theorem dX7_release_0 : decode cX7_release 0 = .ok (.aload_n 0, 1) := by decide +kernel
theorem dX7_release_1 : decode cX7_release 1 = .ok (.getfield 23, 3) := by decide +kernel
theorem dX7_release_4 : decode cX7_release 4 = .ok (.iload_n 1, 1) := by decide +kernel
theorem dX7_release_5 : decode cX7_release 5 = .ok (.invokevirtual 108, 3) := by decide +kernel
theorem dX7_release_8 : decode cX7_release 8 = .ok (.ifCond .ne 13, 3) := by decide +kernel
theorem dX7_release_11 : decode cX7_release 11 = .ok (.new 112, 3) := by decide +kernel
theorem dX7_release_14 : decode cX7_release 14 = .ok (.dup, 1) := by decide +kernel
theorem dX7_release_15 : decode cX7_release 15 = .ok (.ldc 132, 2) := by decide +kernel
theorem dX7_release_17 : decode cX7_release 17 = .ok (.invokespecial 116, 3) := by decide +kernel
theorem dX7_release_20 : decode cX7_release 20 = .ok (.athrow, 1) := by decide +kernel
theorem dX7_release_21 : decode cX7_release 21 = .ok (.aload_n 0, 1) := by decide +kernel
theorem dX7_release_22 : decode cX7_release 22 = .ok (.getfield 23, 3) := by decide +kernel
theorem dX7_release_25 : decode cX7_release 25 = .ok (.iload_n 1, 1) := by decide +kernel
theorem dX7_release_26 : decode cX7_release 26 = .ok (.invokevirtual 134, 3) := by decide +kernel
theorem dX7_release_29 : decode cX7_release 29 = .ok (.ifCond .gt 13, 3) := by decide +kernel
theorem dX7_release_32 : decode cX7_release 32 = .ok (.new 123, 3) := by decide +kernel
theorem dX7_release_35 : decode cX7_release 35 = .ok (.dup, 1) := by decide +kernel
theorem dX7_release_36 : decode cX7_release 36 = .ok (.ldc 143, 2) := by decide +kernel
theorem dX7_release_38 : decode cX7_release 38 = .ok (.invokespecial 127, 3) := by decide +kernel
theorem dX7_release_41 : decode cX7_release 41 = .ok (.athrow, 1) := by decide +kernel
theorem dX7_release_42 : decode cX7_release 42 = .ok (.aload_n 0, 1) := by decide +kernel
theorem dX7_release_43 : decode cX7_release 43 = .ok (.invokevirtual 89, 3) := by decide +kernel
theorem dX7_release_46 : decode cX7_release 46 = .ok (.aload_n 0, 1) := by decide +kernel
theorem dX7_release_47 : decode cX7_release 47 = .ok (.getfield 23, 3) := by decide +kernel
theorem dX7_release_50 : decode cX7_release 50 = .ok (.iload_n 1, 1) := by decide +kernel
theorem dX7_release_51 : decode cX7_release 51 = .ok (.iconst (-1), 1) := by decide +kernel
theorem dX7_release_52 : decode cX7_release 52 = .ok (.invokevirtual 139, 3) := by decide +kernel
theorem dX7_release_55 : decode cX7_release 55 = .ok (.ireturn, 1) := by decide +kernel
theorem dX7_runs_0 : decode cX7_runs 0 = .ok (.aload_n 0, 1) := by decide +kernel
theorem dX7_runs_1 : decode cX7_runs 1 = .ok (.getfield 23, 3) := by decide +kernel
theorem dX7_runs_4 : decode cX7_runs 4 = .ok (.iload_n 1, 1) := by decide +kernel
theorem dX7_runs_5 : decode cX7_runs 5 = .ok (.invokevirtual 108, 3) := by decide +kernel
theorem dX7_runs_8 : decode cX7_runs 8 = .ok (.ifCond .ne 13, 3) := by decide +kernel
theorem dX7_runs_11 : decode cX7_runs 11 = .ok (.new 112, 3) := by decide +kernel
theorem dX7_runs_14 : decode cX7_runs 14 = .ok (.dup, 1) := by decide +kernel
theorem dX7_runs_15 : decode cX7_runs 15 = .ok (.ldc 132, 2) := by decide +kernel
theorem dX7_runs_17 : decode cX7_runs 17 = .ok (.invokespecial 116, 3) := by decide +kernel
theorem dX7_runs_20 : decode cX7_runs 20 = .ok (.athrow, 1) := by decide +kernel
theorem dX7_runs_21 : decode cX7_runs 21 = .ok (.aload_n 0, 1) := by decide +kernel
theorem dX7_runs_22 : decode cX7_runs 22 = .ok (.getfield 23, 3) := by decide +kernel
theorem dX7_runs_25 : decode cX7_runs 25 = .ok (.iload_n 1, 1) := by decide +kernel
theorem dX7_runs_26 : decode cX7_runs 26 = .ok (.invokevirtual 145, 3) := by decide +kernel
theorem dX7_runs_29 : decode cX7_runs 29 = .ok (.ireturn, 1) := by decide +kernel
theorem dX7_frequency_0 : decode cX7_frequency 0 = .ok (.aload_n 0, 1) := by decide +kernel
theorem dX7_frequency_1 : decode cX7_frequency 1 = .ok (.getfield 23, 3) := by decide +kernel
theorem dX7_frequency_4 : decode cX7_frequency 4 = .ok (.iload_n 1, 1) := by decide +kernel
theorem dX7_frequency_5 : decode cX7_frequency 5 = .ok (.invokevirtual 108, 3) := by decide +kernel
theorem dX7_frequency_8 : decode cX7_frequency 8 = .ok (.ifCond .ne 13, 3) := by decide +kernel
theorem dX7_frequency_11 : decode cX7_frequency 11 = .ok (.new 112, 3) := by decide +kernel
theorem dX7_frequency_14 : decode cX7_frequency 14 = .ok (.dup, 1) := by decide +kernel
theorem dX7_frequency_15 : decode cX7_frequency 15 = .ok (.ldc 132, 2) := by decide +kernel
theorem dX7_frequency_17 : decode cX7_frequency 17 = .ok (.invokespecial 116, 3) := by decide +kernel
theorem dX7_frequency_20 : decode cX7_frequency 20 = .ok (.athrow, 1) := by decide +kernel
theorem dX7_frequency_21 : decode cX7_frequency 21 = .ok (.aload_n 0, 1) := by decide +kernel
theorem dX7_frequency_22 : decode cX7_frequency 22 = .ok (.getfield 23, 3) := by decide +kernel
theorem dX7_frequency_25 : decode cX7_frequency 25 = .ok (.iload_n 1, 1) := by decide +kernel
theorem dX7_frequency_26 : decode cX7_frequency 26 = .ok (.invokevirtual 148, 3) := by decide +kernel
theorem dX7_frequency_29 : decode cX7_frequency 29 = .ok (.ireturn, 1) := by decide +kernel
theorem dX7_depth_0 : decode cX7_depth 0 = .ok (.aload_n 0, 1) := by decide +kernel
theorem dX7_depth_1 : decode cX7_depth 1 = .ok (.getfield 23, 3) := by decide +kernel
theorem dX7_depth_4 : decode cX7_depth 4 = .ok (.invokevirtual 151, 3) := by decide +kernel
theorem dX7_depth_7 : decode cX7_depth 7 = .ok (.istore_n 1, 1) := by decide +kernel
theorem dX7_depth_8 : decode cX7_depth 8 = .ok (.iconst 0, 1) := by decide +kernel
theorem dX7_depth_9 : decode cX7_depth 9 = .ok (.istore_n 2, 1) := by decide +kernel
theorem dX7_depth_10 : decode cX7_depth 10 = .ok (.iload_n 2, 1) := by decide +kernel
theorem dX7_depth_11 : decode cX7_depth 11 = .ok (.aload_n 0, 1) := by decide +kernel
theorem dX7_depth_12 : decode cX7_depth 12 = .ok (.getfield 16, 3) := by decide +kernel
theorem dX7_depth_15 : decode cX7_depth 15 = .ok (.arraylength, 1) := by decide +kernel
theorem dX7_depth_16 : decode cX7_depth 16 = .ok (.if_icmp .ge 20, 3) := by decide +kernel
theorem dX7_depth_19 : decode cX7_depth 19 = .ok (.iload_n 1, 1) := by decide +kernel
theorem dX7_depth_20 : decode cX7_depth 20 = .ok (.aload_n 0, 1) := by decide +kernel
theorem dX7_depth_21 : decode cX7_depth 21 = .ok (.getfield 16, 3) := by decide +kernel
theorem dX7_depth_24 : decode cX7_depth 24 = .ok (.iload_n 2, 1) := by decide +kernel
theorem dX7_depth_25 : decode cX7_depth 25 = .ok (.iaload, 1) := by decide +kernel
theorem dX7_depth_26 : decode cX7_depth 26 = .ok (.invokestatic 155, 3) := by decide +kernel
theorem dX7_depth_29 : decode cX7_depth 29 = .ok (.istore_n 1, 1) := by decide +kernel
theorem dX7_depth_30 : decode cX7_depth 30 = .ok (.iinc 2 1, 3) := by decide +kernel
theorem dX7_depth_33 : decode cX7_depth 33 = .ok (.goto (-23), 3) := by decide +kernel
theorem dX7_depth_36 : decode cX7_depth 36 = .ok (.iload_n 1, 1) := by decide +kernel
theorem dX7_depth_37 : decode cX7_depth 37 = .ok (.ireturn, 1) := by decide +kernel
theorem dX7_breakEven_0 : decode cX7_breakEven 0 = .ok (.iload_n 1, 1) := by decide +kernel
theorem dX7_breakEven_1 : decode cX7_breakEven 1 = .ok (.iconst 1, 1) := by decide +kernel
theorem dX7_breakEven_2 : decode cX7_breakEven 2 = .ok (.iconst 3, 1) := by decide +kernel
theorem dX7_breakEven_3 : decode cX7_breakEven 3 = .ok (.invokestatic 78, 3) := by decide +kernel
theorem dX7_breakEven_6 : decode cX7_breakEven 6 = .ok (.ifCond .ne 13, 3) := by decide +kernel
theorem dX7_breakEven_9 : decode cX7_breakEven 9 = .ok (.new 82, 3) := by decide +kernel
theorem dX7_breakEven_12 : decode cX7_breakEven 12 = .ok (.dup, 1) := by decide +kernel
theorem dX7_breakEven_13 : decode cX7_breakEven 13 = .ok (.ldc 160, 2) := by decide +kernel
theorem dX7_breakEven_15 : decode cX7_breakEven 15 = .ok (.invokespecial 86, 3) := by decide +kernel
theorem dX7_breakEven_18 : decode cX7_breakEven 18 = .ok (.athrow, 1) := by decide +kernel
theorem dX7_breakEven_19 : decode cX7_breakEven 19 = .ok (.aload_n 0, 1) := by decide +kernel
theorem dX7_breakEven_20 : decode cX7_breakEven 20 = .ok (.getfield 10, 3) := by decide +kernel
theorem dX7_breakEven_23 : decode cX7_breakEven 23 = .ok (.iload_n 1, 1) := by decide +kernel
theorem dX7_breakEven_24 : decode cX7_breakEven 24 = .ok (.invokevirtual 162, 3) := by decide +kernel
theorem dX7_breakEven_27 : decode cX7_breakEven 27 = .ok (.ireturn, 1) := by decide +kernel
theorem dX7_schedule_0 : decode cX7_schedule 0 = .ok (.iload_n 1, 1) := by decide +kernel
theorem dX7_schedule_1 : decode cX7_schedule 1 = .ok (.aload_n 0, 1) := by decide +kernel
theorem dX7_schedule_2 : decode cX7_schedule 2 = .ok (.getfield 69, 3) := by decide +kernel
theorem dX7_schedule_5 : decode cX7_schedule 5 = .ok (.aload_n 0, 1) := by decide +kernel
theorem dX7_schedule_6 : decode cX7_schedule 6 = .ok (.getfield 69, 3) := by decide +kernel
theorem dX7_schedule_9 : decode cX7_schedule 9 = .ok (.sipush 1000, 3) := by decide +kernel
theorem dX7_schedule_12 : decode cX7_schedule 12 = .ok (.iadd, 1) := by decide +kernel
theorem dX7_schedule_13 : decode cX7_schedule 13 = .ok (.invokestatic 78, 3) := by decide +kernel
theorem dX7_schedule_16 : decode cX7_schedule 16 = .ok (.ifCond .eq 24, 3) := by decide +kernel
theorem dX7_schedule_19 : decode cX7_schedule 19 = .ok (.iload_n 2, 1) := by decide +kernel
theorem dX7_schedule_20 : decode cX7_schedule 20 = .ok (.iconst 0, 1) := by decide +kernel
theorem dX7_schedule_21 : decode cX7_schedule 21 = .ok (.sipush 500, 3) := by decide +kernel
theorem dX7_schedule_24 : decode cX7_schedule 24 = .ok (.invokestatic 78, 3) := by decide +kernel
theorem dX7_schedule_27 : decode cX7_schedule 27 = .ok (.ifCond .eq 13, 3) := by decide +kernel
theorem dX7_schedule_30 : decode cX7_schedule 30 = .ok (.iload_n 3, 1) := by decide +kernel
theorem dX7_schedule_31 : decode cX7_schedule 31 = .ok (.iconst 1, 1) := by decide +kernel
theorem dX7_schedule_32 : decode cX7_schedule 32 = .ok (.bipush 50, 2) := by decide +kernel
theorem dX7_schedule_34 : decode cX7_schedule 34 = .ok (.invokestatic 78, 3) := by decide +kernel
theorem dX7_schedule_37 : decode cX7_schedule 37 = .ok (.ifCond .ne 13, 3) := by decide +kernel
theorem dX7_schedule_40 : decode cX7_schedule 40 = .ok (.new 82, 3) := by decide +kernel
theorem dX7_schedule_43 : decode cX7_schedule 43 = .ok (.dup, 1) := by decide +kernel
theorem dX7_schedule_44 : decode cX7_schedule 44 = .ok (.ldc 165, 2) := by decide +kernel
theorem dX7_schedule_46 : decode cX7_schedule 46 = .ok (.invokespecial 86, 3) := by decide +kernel
theorem dX7_schedule_49 : decode cX7_schedule 49 = .ok (.athrow, 1) := by decide +kernel
theorem dX7_schedule_50 : decode cX7_schedule 50 = .ok (.aload_n 0, 1) := by decide +kernel
theorem dX7_schedule_51 : decode cX7_schedule 51 = .ok (.getfield 30, 3) := by decide +kernel
theorem dX7_schedule_54 : decode cX7_schedule 54 = .ok (.invokevirtual 167, 3) := by decide +kernel
theorem dX7_schedule_57 : decode cX7_schedule 57 = .ok (.ifCond .eq 13, 3) := by decide +kernel
theorem dX7_schedule_60 : decode cX7_schedule 60 = .ok (.new 123, 3) := by decide +kernel
theorem dX7_schedule_63 : decode cX7_schedule 63 = .ok (.dup, 1) := by decide +kernel
theorem dX7_schedule_64 : decode cX7_schedule 64 = .ok (.ldc 168, 2) := by decide +kernel
theorem dX7_schedule_66 : decode cX7_schedule 66 = .ok (.invokespecial 127, 3) := by decide +kernel
theorem dX7_schedule_69 : decode cX7_schedule 69 = .ok (.athrow, 1) := by decide +kernel
theorem dX7_schedule_70 : decode cX7_schedule 70 = .ok (.aload_n 0, 1) := by decide +kernel
theorem dX7_schedule_71 : decode cX7_schedule 71 = .ok (.invokevirtual 89, 3) := by decide +kernel
theorem dX7_schedule_74 : decode cX7_schedule 74 = .ok (.aload_n 0, 1) := by decide +kernel
theorem dX7_schedule_75 : decode cX7_schedule 75 = .ok (.getfield 30, 3) := by decide +kernel
theorem dX7_schedule_78 : decode cX7_schedule 78 = .ok (.iload_n 1, 1) := by decide +kernel
theorem dX7_schedule_79 : decode cX7_schedule 79 = .ok (.iload_n 1, 1) := by decide +kernel
theorem dX7_schedule_80 : decode cX7_schedule 80 = .ok (.iload_n 2, 1) := by decide +kernel
theorem dX7_schedule_81 : decode cX7_schedule 81 = .ok (.iadd, 1) := by decide +kernel
theorem dX7_schedule_82 : decode cX7_schedule 82 = .ok (.iload_n 3, 1) := by decide +kernel
theorem dX7_schedule_83 : decode cX7_schedule 83 = .ok (.invokevirtual 170, 3) := by decide +kernel
theorem dX7_schedule_86 : decode cX7_schedule 86 = .ok (.ireturn, 1) := by decide +kernel
theorem dX7_addEvent_0 : decode cX7_addEvent 0 = .ok (.iload_n 1, 1) := by decide +kernel
theorem dX7_addEvent_1 : decode cX7_addEvent 1 = .ok (.aload_n 0, 1) := by decide +kernel
theorem dX7_addEvent_2 : decode cX7_addEvent 2 = .ok (.getfield 69, 3) := by decide +kernel
theorem dX7_addEvent_5 : decode cX7_addEvent 5 = .ok (.aload_n 0, 1) := by decide +kernel
theorem dX7_addEvent_6 : decode cX7_addEvent 6 = .ok (.getfield 69, 3) := by decide +kernel
theorem dX7_addEvent_9 : decode cX7_addEvent 9 = .ok (.sipush 1000, 3) := by decide +kernel
theorem dX7_addEvent_12 : decode cX7_addEvent 12 = .ok (.iadd, 1) := by decide +kernel
theorem dX7_addEvent_13 : decode cX7_addEvent 13 = .ok (.invokestatic 78, 3) := by decide +kernel
theorem dX7_addEvent_16 : decode cX7_addEvent 16 = .ok (.ifCond .eq 13, 3) := by decide +kernel
theorem dX7_addEvent_19 : decode cX7_addEvent 19 = .ok (.iload_n 2, 1) := by decide +kernel
theorem dX7_addEvent_20 : decode cX7_addEvent 20 = .ok (.iconst 1, 1) := by decide +kernel
theorem dX7_addEvent_21 : decode cX7_addEvent 21 = .ok (.bipush 50, 2) := by decide +kernel
theorem dX7_addEvent_23 : decode cX7_addEvent 23 = .ok (.invokestatic 78, 3) := by decide +kernel
theorem dX7_addEvent_26 : decode cX7_addEvent 26 = .ok (.ifCond .ne 13, 3) := by decide +kernel
theorem dX7_addEvent_29 : decode cX7_addEvent 29 = .ok (.new 82, 3) := by decide +kernel
theorem dX7_addEvent_32 : decode cX7_addEvent 32 = .ok (.dup, 1) := by decide +kernel
theorem dX7_addEvent_33 : decode cX7_addEvent 33 = .ok (.ldc 171, 2) := by decide +kernel
theorem dX7_addEvent_35 : decode cX7_addEvent 35 = .ok (.invokespecial 86, 3) := by decide +kernel
theorem dX7_addEvent_38 : decode cX7_addEvent 38 = .ok (.athrow, 1) := by decide +kernel
theorem dX7_addEvent_39 : decode cX7_addEvent 39 = .ok (.aload_n 0, 1) := by decide +kernel
theorem dX7_addEvent_40 : decode cX7_addEvent 40 = .ok (.getfield 34, 3) := by decide +kernel
theorem dX7_addEvent_43 : decode cX7_addEvent 43 = .ok (.invokevirtual 167, 3) := by decide +kernel
theorem dX7_addEvent_46 : decode cX7_addEvent 46 = .ok (.ifCond .eq 13, 3) := by decide +kernel
theorem dX7_addEvent_49 : decode cX7_addEvent 49 = .ok (.new 123, 3) := by decide +kernel
theorem dX7_addEvent_52 : decode cX7_addEvent 52 = .ok (.dup, 1) := by decide +kernel
theorem dX7_addEvent_53 : decode cX7_addEvent 53 = .ok (.ldc 173, 2) := by decide +kernel
theorem dX7_addEvent_55 : decode cX7_addEvent 55 = .ok (.invokespecial 127, 3) := by decide +kernel
theorem dX7_addEvent_58 : decode cX7_addEvent 58 = .ok (.athrow, 1) := by decide +kernel
theorem dX7_addEvent_59 : decode cX7_addEvent 59 = .ok (.aload_n 0, 1) := by decide +kernel
theorem dX7_addEvent_60 : decode cX7_addEvent 60 = .ok (.getfield 34, 3) := by decide +kernel
theorem dX7_addEvent_63 : decode cX7_addEvent 63 = .ok (.iload_n 1, 1) := by decide +kernel
theorem dX7_addEvent_64 : decode cX7_addEvent 64 = .ok (.iload_n 1, 1) := by decide +kernel
theorem dX7_addEvent_65 : decode cX7_addEvent 65 = .ok (.iload_n 2, 1) := by decide +kernel
theorem dX7_addEvent_66 : decode cX7_addEvent 66 = .ok (.invokevirtual 170, 3) := by decide +kernel
theorem dX7_addEvent_69 : decode cX7_addEvent 69 = .ok (.ireturn, 1) := by decide +kernel
theorem dX7_setRule_0 : decode cX7_setRule 0 = .ok (.iload_n 1, 1) := by decide +kernel
theorem dX7_setRule_1 : decode cX7_setRule 1 = .ok (.iconst 0, 1) := by decide +kernel
theorem dX7_setRule_2 : decode cX7_setRule 2 = .ok (.iconst 2, 1) := by decide +kernel
theorem dX7_setRule_3 : decode cX7_setRule 3 = .ok (.invokestatic 78, 3) := by decide +kernel
theorem dX7_setRule_6 : decode cX7_setRule 6 = .ok (.ifCond .ne 13, 3) := by decide +kernel
theorem dX7_setRule_9 : decode cX7_setRule 9 = .ok (.new 82, 3) := by decide +kernel
theorem dX7_setRule_12 : decode cX7_setRule 12 = .ok (.dup, 1) := by decide +kernel
theorem dX7_setRule_13 : decode cX7_setRule 13 = .ok (.ldc 175, 2) := by decide +kernel
theorem dX7_setRule_15 : decode cX7_setRule 15 = .ok (.invokespecial 86, 3) := by decide +kernel
theorem dX7_setRule_18 : decode cX7_setRule 18 = .ok (.athrow, 1) := by decide +kernel
theorem dX7_setRule_19 : decode cX7_setRule 19 = .ok (.aload_n 0, 1) := by decide +kernel
theorem dX7_setRule_20 : decode cX7_setRule 20 = .ok (.invokevirtual 89, 3) := by decide +kernel
theorem dX7_setRule_23 : decode cX7_setRule 23 = .ok (.aload_n 0, 1) := by decide +kernel
theorem dX7_setRule_24 : decode cX7_setRule 24 = .ok (.getfield 65, 3) := by decide +kernel
theorem dX7_setRule_27 : decode cX7_setRule 27 = .ok (.istore_n 2, 1) := by decide +kernel
theorem dX7_setRule_28 : decode cX7_setRule 28 = .ok (.aload_n 0, 1) := by decide +kernel
theorem dX7_setRule_29 : decode cX7_setRule 29 = .ok (.iload_n 1, 1) := by decide +kernel
theorem dX7_setRule_30 : decode cX7_setRule 30 = .ok (.putfield 65, 3) := by decide +kernel
theorem dX7_setRule_33 : decode cX7_setRule 33 = .ok (.iload_n 2, 1) := by decide +kernel
theorem dX7_setRule_34 : decode cX7_setRule 34 = .ok (.ireturn, 1) := by decide +kernel
theorem dX7_timers_0 : decode cX7_timers 0 = .ok (.aload_n 0, 1) := by decide +kernel
theorem dX7_timers_1 : decode cX7_timers 1 = .ok (.getfield 30, 3) := by decide +kernel
theorem dX7_timers_4 : decode cX7_timers 4 = .ok (.getfield 177, 3) := by decide +kernel
theorem dX7_timers_7 : decode cX7_timers 7 = .ok (.ireturn, 1) := by decide +kernel
theorem dX7_nextWakeup_0 : decode cX7_nextWakeup 0 = .ok (.aload_n 0, 1) := by decide +kernel
theorem dX7_nextWakeup_1 : decode cX7_nextWakeup 1 = .ok (.getfield 30, 3) := by decide +kernel
theorem dX7_nextWakeup_4 : decode cX7_nextWakeup 4 = .ok (.iconst (-1), 1) := by decide +kernel
theorem dX7_nextWakeup_5 : decode cX7_nextWakeup 5 = .ok (.ldc 180, 2) := by decide +kernel
theorem dX7_nextWakeup_7 : decode cX7_nextWakeup 7 = .ok (.invokevirtual 181, 3) := by decide +kernel
theorem dX7_nextWakeup_10 : decode cX7_nextWakeup 10 = .ok (.ireturn, 1) := by decide +kernel
theorem dX7_play_0 : decode cX7_play 0 = .ok (.iload_n 1, 1) := by decide +kernel
theorem dX7_play_1 : decode cX7_play 1 = .ok (.iconst 1, 1) := by decide +kernel
theorem dX7_play_2 : decode cX7_play 2 = .ok (.sipush 200, 3) := by decide +kernel
theorem dX7_play_5 : decode cX7_play 5 = .ok (.invokestatic 78, 3) := by decide +kernel
theorem dX7_play_8 : decode cX7_play 8 = .ok (.ifCond .ne 13, 3) := by decide +kernel
theorem dX7_play_11 : decode cX7_play 11 = .ok (.new 82, 3) := by decide +kernel
theorem dX7_play_14 : decode cX7_play 14 = .ok (.dup, 1) := by decide +kernel
theorem dX7_play_15 : decode cX7_play 15 = .ok (.ldc 184, 2) := by decide +kernel
theorem dX7_play_17 : decode cX7_play 17 = .ok (.invokespecial 86, 3) := by decide +kernel
theorem dX7_play_20 : decode cX7_play 20 = .ok (.athrow, 1) := by decide +kernel
theorem dX7_play_21 : decode cX7_play 21 = .ok (.iconst 0, 1) := by decide +kernel
theorem dX7_play_22 : decode cX7_play 22 = .ok (.istore_n 2, 1) := by decide +kernel
theorem dX7_play_23 : decode cX7_play 23 = .ok (.iload_n 2, 1) := by decide +kernel
theorem dX7_play_24 : decode cX7_play 24 = .ok (.iload_n 1, 1) := by decide +kernel
theorem dX7_play_25 : decode cX7_play 25 = .ok (.if_icmp .ge 13, 3) := by decide +kernel
theorem dX7_play_28 : decode cX7_play 28 = .ok (.aload_n 0, 1) := by decide +kernel
theorem dX7_play_29 : decode cX7_play 29 = .ok (.invokevirtual 186, 3) := by decide +kernel
theorem dX7_play_32 : decode cX7_play 32 = .ok (.iinc 2 1, 3) := by decide +kernel
theorem dX7_play_35 : decode cX7_play 35 = .ok (.goto (-12), 3) := by decide +kernel
theorem dX7_play_38 : decode cX7_play 38 = .ok (.aload_n 0, 1) := by decide +kernel
theorem dX7_play_39 : decode cX7_play 39 = .ok (.getfield 69, 3) := by decide +kernel
theorem dX7_play_42 : decode cX7_play 42 = .ok (.ireturn, 1) := by decide +kernel
theorem dX7_now_0 : decode cX7_now 0 = .ok (.aload_n 0, 1) := by decide +kernel
theorem dX7_now_1 : decode cX7_now 1 = .ok (.getfield 69, 3) := by decide +kernel
theorem dX7_now_4 : decode cX7_now 4 = .ok (.ireturn, 1) := by decide +kernel
theorem dX7_state_0 : decode cX7_state 0 = .ok (.aload_n 0, 1) := by decide +kernel
theorem dX7_state_1 : decode cX7_state 1 = .ok (.getfield 72, 3) := by decide +kernel
theorem dX7_state_4 : decode cX7_state 4 = .ok (.ireturn, 1) := by decide +kernel
theorem dX7_spent_0 : decode cX7_spent 0 = .ok (.aload_n 0, 1) := by decide +kernel
theorem dX7_spent_1 : decode cX7_spent 1 = .ok (.getfield 47, 3) := by decide +kernel
theorem dX7_spent_4 : decode cX7_spent 4 = .ok (.getfield 189, 3) := by decide +kernel
theorem dX7_spent_7 : decode cX7_spent 7 = .ok (.lreturn, 1) := by decide +kernel
theorem dX7_ticksIn_0 : decode cX7_ticksIn 0 = .ok (.iload_n 1, 1) := by decide +kernel
theorem dX7_ticksIn_1 : decode cX7_ticksIn 1 = .ok (.iconst 0, 1) := by decide +kernel
theorem dX7_ticksIn_2 : decode cX7_ticksIn 2 = .ok (.iconst 3, 1) := by decide +kernel
theorem dX7_ticksIn_3 : decode cX7_ticksIn 3 = .ok (.invokestatic 78, 3) := by decide +kernel
theorem dX7_ticksIn_6 : decode cX7_ticksIn 6 = .ok (.ifCond .ne 13, 3) := by decide +kernel
theorem dX7_ticksIn_9 : decode cX7_ticksIn 9 = .ok (.new 82, 3) := by decide +kernel
theorem dX7_ticksIn_12 : decode cX7_ticksIn 12 = .ok (.dup, 1) := by decide +kernel
theorem dX7_ticksIn_13 : decode cX7_ticksIn 13 = .ok (.ldc 160, 2) := by decide +kernel
theorem dX7_ticksIn_15 : decode cX7_ticksIn 15 = .ok (.invokespecial 86, 3) := by decide +kernel
theorem dX7_ticksIn_18 : decode cX7_ticksIn 18 = .ok (.athrow, 1) := by decide +kernel
theorem dX7_ticksIn_19 : decode cX7_ticksIn 19 = .ok (.aload_n 0, 1) := by decide +kernel
theorem dX7_ticksIn_20 : decode cX7_ticksIn 20 = .ok (.getfield 47, 3) := by decide +kernel
theorem dX7_ticksIn_23 : decode cX7_ticksIn 23 = .ok (.getfield 193, 3) := by decide +kernel
theorem dX7_ticksIn_26 : decode cX7_ticksIn 26 = .ok (.iload_n 1, 1) := by decide +kernel
theorem dX7_ticksIn_27 : decode cX7_ticksIn 27 = .ok (.invokestatic 196, 3) := by decide +kernel
theorem dX7_ticksIn_30 : decode cX7_ticksIn 30 = .ok (.ireturn, 1) := by decide +kernel
theorem dX7_sleeps_0 : decode cX7_sleeps 0 = .ok (.aload_n 0, 1) := by decide +kernel
theorem dX7_sleeps_1 : decode cX7_sleeps 1 = .ok (.getfield 47, 3) := by decide +kernel
theorem dX7_sleeps_4 : decode cX7_sleeps 4 = .ok (.getfield 200, 3) := by decide +kernel
theorem dX7_sleeps_7 : decode cX7_sleeps 7 = .ok (.ireturn, 1) := by decide +kernel
theorem dX7_lateness_0 : decode cX7_lateness 0 = .ok (.aload_n 0, 1) := by decide +kernel
theorem dX7_lateness_1 : decode cX7_lateness 1 = .ok (.getfield 47, 3) := by decide +kernel
theorem dX7_lateness_4 : decode cX7_lateness 4 = .ok (.getfield 203, 3) := by decide +kernel
theorem dX7_lateness_7 : decode cX7_lateness 7 = .ok (.ireturn, 1) := by decide +kernel
theorem dX7_served_0 : decode cX7_served 0 = .ok (.aload_n 0, 1) := by decide +kernel
theorem dX7_served_1 : decode cX7_served 1 = .ok (.getfield 47, 3) := by decide +kernel
theorem dX7_served_4 : decode cX7_served 4 = .ok (.getfield 206, 3) := by decide +kernel
theorem dX7_served_7 : decode cX7_served 7 = .ok (.ireturn, 1) := by decide +kernel
theorem dX7_setHarvest_0 : decode cX7_setHarvest 0 = .ok (.iload_n 1, 1) := by decide +kernel
theorem dX7_setHarvest_1 : decode cX7_setHarvest 1 = .ok (.iconst 0, 1) := by decide +kernel
theorem dX7_setHarvest_2 : decode cX7_setHarvest 2 = .ok (.bipush 23, 2) := by decide +kernel
theorem dX7_setHarvest_4 : decode cX7_setHarvest 4 = .ok (.invokestatic 78, 3) := by decide +kernel
theorem dX7_setHarvest_7 : decode cX7_setHarvest 7 = .ok (.ifCond .eq 14, 3) := by decide +kernel
theorem dX7_setHarvest_10 : decode cX7_setHarvest 10 = .ok (.iload_n 2, 1) := by decide +kernel
theorem dX7_setHarvest_11 : decode cX7_setHarvest 11 = .ok (.iconst 0, 1) := by decide +kernel
theorem dX7_setHarvest_12 : decode cX7_setHarvest 12 = .ok (.sipush 1000, 3) := by decide +kernel
theorem dX7_setHarvest_15 : decode cX7_setHarvest 15 = .ok (.invokestatic 78, 3) := by decide +kernel
theorem dX7_setHarvest_18 : decode cX7_setHarvest 18 = .ok (.ifCond .ne 13, 3) := by decide +kernel
theorem dX7_setHarvest_21 : decode cX7_setHarvest 21 = .ok (.new 82, 3) := by decide +kernel
theorem dX7_setHarvest_24 : decode cX7_setHarvest 24 = .ok (.dup, 1) := by decide +kernel
theorem dX7_setHarvest_25 : decode cX7_setHarvest 25 = .ok (.ldc 209, 2) := by decide +kernel
theorem dX7_setHarvest_27 : decode cX7_setHarvest 27 = .ok (.invokespecial 86, 3) := by decide +kernel
theorem dX7_setHarvest_30 : decode cX7_setHarvest 30 = .ok (.athrow, 1) := by decide +kernel
theorem dX7_setHarvest_31 : decode cX7_setHarvest 31 = .ok (.aload_n 0, 1) := by decide +kernel
theorem dX7_setHarvest_32 : decode cX7_setHarvest 32 = .ok (.getfield 54, 3) := by decide +kernel
theorem dX7_setHarvest_35 : decode cX7_setHarvest 35 = .ok (.getfield 211, 3) := by decide +kernel
theorem dX7_setHarvest_38 : decode cX7_setHarvest 38 = .ok (.iload_n 1, 1) := by decide +kernel
theorem dX7_setHarvest_39 : decode cX7_setHarvest 39 = .ok (.iload_n 2, 1) := by decide +kernel
theorem dX7_setHarvest_40 : decode cX7_setHarvest 40 = .ok (.invokestatic 104, 3) := by decide +kernel
theorem dX7_setHarvest_43 : decode cX7_setHarvest 43 = .ok (.ireturn, 1) := by decide +kernel
theorem dX7_available_0 : decode cX7_available 0 = .ok (.aload_n 0, 1) := by decide +kernel
theorem dX7_available_1 : decode cX7_available 1 = .ok (.getfield 54, 3) := by decide +kernel
theorem dX7_available_4 : decode cX7_available 4 = .ok (.getfield 214, 3) := by decide +kernel
theorem dX7_available_7 : decode cX7_available 7 = .ok (.ireturn, 1) := by decide +kernel
theorem dX7_bound_0 : decode cX7_bound 0 = .ok (.aload_n 0, 1) := by decide +kernel
theorem dX7_bound_1 : decode cX7_bound 1 = .ok (.getfield 54, 3) := by decide +kernel
theorem dX7_bound_4 : decode cX7_bound 4 = .ok (.getfield 217, 3) := by decide +kernel
theorem dX7_bound_7 : decode cX7_bound 7 = .ok (.ireturn, 1) := by decide +kernel
theorem dX7_shortTicks_0 : decode cX7_shortTicks 0 = .ok (.aload_n 0, 1) := by decide +kernel
theorem dX7_shortTicks_1 : decode cX7_shortTicks 1 = .ok (.getfield 54, 3) := by decide +kernel
theorem dX7_shortTicks_4 : decode cX7_shortTicks 4 = .ok (.getfield 220, 3) := by decide +kernel
theorem dX7_shortTicks_7 : decode cX7_shortTicks 7 = .ok (.ireturn, 1) := by decide +kernel
theorem dX7_plannedWakeups_0 : decode cX7_plannedWakeups 0 = .ok (.iload_n 1, 1) := by decide +kernel
theorem dX7_plannedWakeups_1 : decode cX7_plannedWakeups 1 = .ok (.aload_n 0, 1) := by decide +kernel
theorem dX7_plannedWakeups_2 : decode cX7_plannedWakeups 2 = .ok (.getfield 69, 3) := by decide +kernel
theorem dX7_plannedWakeups_5 : decode cX7_plannedWakeups 5 = .ok (.aload_n 0, 1) := by decide +kernel
theorem dX7_plannedWakeups_6 : decode cX7_plannedWakeups 6 = .ok (.getfield 69, 3) := by decide +kernel
theorem dX7_plannedWakeups_9 : decode cX7_plannedWakeups 9 = .ok (.sipush 400, 3) := by decide +kernel
theorem dX7_plannedWakeups_12 : decode cX7_plannedWakeups 12 = .ok (.iadd, 1) := by decide +kernel
theorem dX7_plannedWakeups_13 : decode cX7_plannedWakeups 13 = .ok (.invokestatic 78, 3) := by decide +kernel
theorem dX7_plannedWakeups_16 : decode cX7_plannedWakeups 16 = .ok (.ifCond .ne 13, 3) := by decide +kernel
theorem dX7_plannedWakeups_19 : decode cX7_plannedWakeups 19 = .ok (.new 82, 3) := by decide +kernel
theorem dX7_plannedWakeups_22 : decode cX7_plannedWakeups 22 = .ok (.dup, 1) := by decide +kernel
theorem dX7_plannedWakeups_23 : decode cX7_plannedWakeups 23 = .ok (.ldc 223, 2) := by decide +kernel
theorem dX7_plannedWakeups_25 : decode cX7_plannedWakeups 25 = .ok (.invokespecial 86, 3) := by decide +kernel
theorem dX7_plannedWakeups_28 : decode cX7_plannedWakeups 28 = .ok (.athrow, 1) := by decide +kernel
theorem dX7_plannedWakeups_29 : decode cX7_plannedWakeups 29 = .ok (.aload_n 0, 1) := by decide +kernel
theorem dX7_plannedWakeups_30 : decode cX7_plannedWakeups 30 = .ok (.getfield 61, 3) := by decide +kernel
theorem dX7_plannedWakeups_33 : decode cX7_plannedWakeups 33 = .ok (.aload_n 0, 1) := by decide +kernel
theorem dX7_plannedWakeups_34 : decode cX7_plannedWakeups 34 = .ok (.getfield 30, 3) := by decide +kernel
theorem dX7_plannedWakeups_37 : decode cX7_plannedWakeups 37 = .ok (.iload_n 1, 1) := by decide +kernel
theorem dX7_plannedWakeups_38 : decode cX7_plannedWakeups 38 = .ok (.invokevirtual 225, 3) := by decide +kernel
theorem dX7_plannedWakeups_41 : decode cX7_plannedWakeups 41 = .ok (.ireturn, 1) := by decide +kernel
theorem dX7_fewestWakeups_0 : decode cX7_fewestWakeups 0 = .ok (.iload_n 1, 1) := by decide +kernel
theorem dX7_fewestWakeups_1 : decode cX7_fewestWakeups 1 = .ok (.aload_n 0, 1) := by decide +kernel
theorem dX7_fewestWakeups_2 : decode cX7_fewestWakeups 2 = .ok (.getfield 69, 3) := by decide +kernel
theorem dX7_fewestWakeups_5 : decode cX7_fewestWakeups 5 = .ok (.aload_n 0, 1) := by decide +kernel
theorem dX7_fewestWakeups_6 : decode cX7_fewestWakeups 6 = .ok (.getfield 69, 3) := by decide +kernel
theorem dX7_fewestWakeups_9 : decode cX7_fewestWakeups 9 = .ok (.sipush 400, 3) := by decide +kernel
theorem dX7_fewestWakeups_12 : decode cX7_fewestWakeups 12 = .ok (.iadd, 1) := by decide +kernel
theorem dX7_fewestWakeups_13 : decode cX7_fewestWakeups 13 = .ok (.invokestatic 78, 3) := by decide +kernel
theorem dX7_fewestWakeups_16 : decode cX7_fewestWakeups 16 = .ok (.ifCond .ne 13, 3) := by decide +kernel
theorem dX7_fewestWakeups_19 : decode cX7_fewestWakeups 19 = .ok (.new 82, 3) := by decide +kernel
theorem dX7_fewestWakeups_22 : decode cX7_fewestWakeups 22 = .ok (.dup, 1) := by decide +kernel
theorem dX7_fewestWakeups_23 : decode cX7_fewestWakeups 23 = .ok (.ldc 223, 2) := by decide +kernel
theorem dX7_fewestWakeups_25 : decode cX7_fewestWakeups 25 = .ok (.invokespecial 86, 3) := by decide +kernel
theorem dX7_fewestWakeups_28 : decode cX7_fewestWakeups 28 = .ok (.athrow, 1) := by decide +kernel
theorem dX7_fewestWakeups_29 : decode cX7_fewestWakeups 29 = .ok (.aload_n 0, 1) := by decide +kernel
theorem dX7_fewestWakeups_30 : decode cX7_fewestWakeups 30 = .ok (.getfield 61, 3) := by decide +kernel
theorem dX7_fewestWakeups_33 : decode cX7_fewestWakeups 33 = .ok (.aload_n 0, 1) := by decide +kernel
theorem dX7_fewestWakeups_34 : decode cX7_fewestWakeups 34 = .ok (.getfield 30, 3) := by decide +kernel
theorem dX7_fewestWakeups_37 : decode cX7_fewestWakeups 37 = .ok (.aload_n 0, 1) := by decide +kernel
theorem dX7_fewestWakeups_38 : decode cX7_fewestWakeups 38 = .ok (.getfield 69, 3) := by decide +kernel
theorem dX7_fewestWakeups_41 : decode cX7_fewestWakeups 41 = .ok (.iload_n 1, 1) := by decide +kernel
theorem dX7_fewestWakeups_42 : decode cX7_fewestWakeups 42 = .ok (.invokevirtual 229, 3) := by decide +kernel
theorem dX7_fewestWakeups_45 : decode cX7_fewestWakeups 45 = .ok (.ireturn, 1) := by decide +kernel
theorem dX7_plannedCost_0 : decode cX7_plannedCost 0 = .ok (.iload_n 1, 1) := by decide +kernel
theorem dX7_plannedCost_1 : decode cX7_plannedCost 1 = .ok (.aload_n 0, 1) := by decide +kernel
theorem dX7_plannedCost_2 : decode cX7_plannedCost 2 = .ok (.getfield 69, 3) := by decide +kernel
theorem dX7_plannedCost_5 : decode cX7_plannedCost 5 = .ok (.aload_n 0, 1) := by decide +kernel
theorem dX7_plannedCost_6 : decode cX7_plannedCost 6 = .ok (.getfield 69, 3) := by decide +kernel
theorem dX7_plannedCost_9 : decode cX7_plannedCost 9 = .ok (.sipush 400, 3) := by decide +kernel
theorem dX7_plannedCost_12 : decode cX7_plannedCost 12 = .ok (.iadd, 1) := by decide +kernel
theorem dX7_plannedCost_13 : decode cX7_plannedCost 13 = .ok (.invokestatic 78, 3) := by decide +kernel
theorem dX7_plannedCost_16 : decode cX7_plannedCost 16 = .ok (.ifCond .ne 13, 3) := by decide +kernel
theorem dX7_plannedCost_19 : decode cX7_plannedCost 19 = .ok (.new 82, 3) := by decide +kernel
theorem dX7_plannedCost_22 : decode cX7_plannedCost 22 = .ok (.dup, 1) := by decide +kernel
theorem dX7_plannedCost_23 : decode cX7_plannedCost 23 = .ok (.ldc 223, 2) := by decide +kernel
theorem dX7_plannedCost_25 : decode cX7_plannedCost 25 = .ok (.invokespecial 86, 3) := by decide +kernel
theorem dX7_plannedCost_28 : decode cX7_plannedCost 28 = .ok (.athrow, 1) := by decide +kernel
theorem dX7_plannedCost_29 : decode cX7_plannedCost 29 = .ok (.aload_n 0, 1) := by decide +kernel
theorem dX7_plannedCost_30 : decode cX7_plannedCost 30 = .ok (.getfield 61, 3) := by decide +kernel
theorem dX7_plannedCost_33 : decode cX7_plannedCost 33 = .ok (.aload_n 0, 1) := by decide +kernel
theorem dX7_plannedCost_34 : decode cX7_plannedCost 34 = .ok (.getfield 30, 3) := by decide +kernel
theorem dX7_plannedCost_37 : decode cX7_plannedCost 37 = .ok (.aload_n 0, 1) := by decide +kernel
theorem dX7_plannedCost_38 : decode cX7_plannedCost 38 = .ok (.getfield 69, 3) := by decide +kernel
theorem dX7_plannedCost_41 : decode cX7_plannedCost 41 = .ok (.iload_n 1, 1) := by decide +kernel
theorem dX7_plannedCost_42 : decode cX7_plannedCost 42 = .ok (.aload_n 0, 1) := by decide +kernel
theorem dX7_plannedCost_43 : decode cX7_plannedCost 43 = .ok (.getfield 10, 3) := by decide +kernel
theorem dX7_plannedCost_46 : decode cX7_plannedCost 46 = .ok (.aload_n 0, 1) := by decide +kernel
theorem dX7_plannedCost_47 : decode cX7_plannedCost 47 = .ok (.invokevirtual 233, 3) := by decide +kernel
theorem dX7_plannedCost_50 : decode cX7_plannedCost 50 = .ok (.invokevirtual 236, 3) := by decide +kernel
theorem dX7_plannedCost_53 : decode cX7_plannedCost 53 = .ok (.lreturn, 1) := by decide +kernel
theorem dX7_leastCost_0 : decode cX7_leastCost 0 = .ok (.iload_n 1, 1) := by decide +kernel
theorem dX7_leastCost_1 : decode cX7_leastCost 1 = .ok (.aload_n 0, 1) := by decide +kernel
theorem dX7_leastCost_2 : decode cX7_leastCost 2 = .ok (.getfield 69, 3) := by decide +kernel
theorem dX7_leastCost_5 : decode cX7_leastCost 5 = .ok (.aload_n 0, 1) := by decide +kernel
theorem dX7_leastCost_6 : decode cX7_leastCost 6 = .ok (.getfield 69, 3) := by decide +kernel
theorem dX7_leastCost_9 : decode cX7_leastCost 9 = .ok (.sipush 400, 3) := by decide +kernel
theorem dX7_leastCost_12 : decode cX7_leastCost 12 = .ok (.iadd, 1) := by decide +kernel
theorem dX7_leastCost_13 : decode cX7_leastCost 13 = .ok (.invokestatic 78, 3) := by decide +kernel
theorem dX7_leastCost_16 : decode cX7_leastCost 16 = .ok (.ifCond .ne 13, 3) := by decide +kernel
theorem dX7_leastCost_19 : decode cX7_leastCost 19 = .ok (.new 82, 3) := by decide +kernel
theorem dX7_leastCost_22 : decode cX7_leastCost 22 = .ok (.dup, 1) := by decide +kernel
theorem dX7_leastCost_23 : decode cX7_leastCost 23 = .ok (.ldc 223, 2) := by decide +kernel
theorem dX7_leastCost_25 : decode cX7_leastCost 25 = .ok (.invokespecial 86, 3) := by decide +kernel
theorem dX7_leastCost_28 : decode cX7_leastCost 28 = .ok (.athrow, 1) := by decide +kernel
theorem dX7_leastCost_29 : decode cX7_leastCost 29 = .ok (.aload_n 0, 1) := by decide +kernel
theorem dX7_leastCost_30 : decode cX7_leastCost 30 = .ok (.getfield 61, 3) := by decide +kernel
theorem dX7_leastCost_33 : decode cX7_leastCost 33 = .ok (.aload_n 0, 1) := by decide +kernel
theorem dX7_leastCost_34 : decode cX7_leastCost 34 = .ok (.getfield 30, 3) := by decide +kernel
theorem dX7_leastCost_37 : decode cX7_leastCost 37 = .ok (.aload_n 0, 1) := by decide +kernel
theorem dX7_leastCost_38 : decode cX7_leastCost 38 = .ok (.getfield 69, 3) := by decide +kernel
theorem dX7_leastCost_41 : decode cX7_leastCost 41 = .ok (.iload_n 1, 1) := by decide +kernel
theorem dX7_leastCost_42 : decode cX7_leastCost 42 = .ok (.aload_n 0, 1) := by decide +kernel
theorem dX7_leastCost_43 : decode cX7_leastCost 43 = .ok (.getfield 10, 3) := by decide +kernel
theorem dX7_leastCost_46 : decode cX7_leastCost 46 = .ok (.aload_n 0, 1) := by decide +kernel
theorem dX7_leastCost_47 : decode cX7_leastCost 47 = .ok (.invokevirtual 233, 3) := by decide +kernel
theorem dX7_leastCost_50 : decode cX7_leastCost 50 = .ok (.invokevirtual 240, 3) := by decide +kernel
theorem dX7_leastCost_53 : decode cX7_leastCost 53 = .ok (.lreturn, 1) := by decide +kernel
theorem dX7_playTick_0 : decode cX7_playTick 0 = .ok (.aload_n 0, 1) := by decide +kernel
theorem dX7_playTick_1 : decode cX7_playTick 1 = .ok (.getfield 72, 3) := by decide +kernel
theorem dX7_playTick_4 : decode cX7_playTick 4 = .ok (.ifCond .eq 7, 3) := by decide +kernel
theorem dX7_playTick_7 : decode cX7_playTick 7 = .ok (.aload_n 0, 1) := by decide +kernel
theorem dX7_playTick_8 : decode cX7_playTick 8 = .ok (.invokevirtual 243, 3) := by decide +kernel
theorem dX7_playTick_11 : decode cX7_playTick 11 = .ok (.aload_n 0, 1) := by decide +kernel
theorem dX7_playTick_12 : decode cX7_playTick 12 = .ok (.getfield 72, 3) := by decide +kernel
theorem dX7_playTick_15 : decode cX7_playTick 15 = .ok (.ifCond .ne 15, 3) := by decide +kernel
theorem dX7_playTick_18 : decode cX7_playTick 18 = .ok (.aload_n 0, 1) := by decide +kernel
theorem dX7_playTick_19 : decode cX7_playTick 19 = .ok (.invokevirtual 246, 3) := by decide +kernel
theorem dX7_playTick_22 : decode cX7_playTick 22 = .ok (.aload_n 0, 1) := by decide +kernel
theorem dX7_playTick_23 : decode cX7_playTick 23 = .ok (.aload_n 0, 1) := by decide +kernel
theorem dX7_playTick_24 : decode cX7_playTick 24 = .ok (.invokevirtual 249, 3) := by decide +kernel
theorem dX7_playTick_27 : decode cX7_playTick 27 = .ok (.invokevirtual 252, 3) := by decide +kernel
theorem dX7_playTick_30 : decode cX7_playTick 30 = .ok (.aload_n 0, 1) := by decide +kernel
theorem dX7_playTick_31 : decode cX7_playTick 31 = .ok (.getfield 47, 3) := by decide +kernel
theorem dX7_playTick_34 : decode cX7_playTick 34 = .ok (.aload_n 0, 1) := by decide +kernel
theorem dX7_playTick_35 : decode cX7_playTick 35 = .ok (.getfield 72, 3) := by decide +kernel
theorem dX7_playTick_38 : decode cX7_playTick 38 = .ok (.invokevirtual 256, 3) := by decide +kernel
theorem dX7_playTick_41 : decode cX7_playTick 41 = .ok (.aload_n 0, 1) := by decide +kernel
theorem dX7_playTick_42 : decode cX7_playTick 42 = .ok (.getfield 47, 3) := by decide +kernel
theorem dX7_playTick_45 : decode cX7_playTick 45 = .ok (.aload_n 0, 1) := by decide +kernel
theorem dX7_playTick_46 : decode cX7_playTick 46 = .ok (.invokevirtual 259, 3) := by decide +kernel
theorem dX7_playTick_49 : decode cX7_playTick 49 = .ok (.i2l, 1) := by decide +kernel
theorem dX7_playTick_50 : decode cX7_playTick 50 = .ok (.invokevirtual 262, 3) := by decide +kernel
theorem dX7_playTick_53 : decode cX7_playTick 53 = .ok (.aload_n 0, 1) := by decide +kernel
theorem dX7_playTick_54 : decode cX7_playTick 54 = .ok (.getfield 54, 3) := by decide +kernel
theorem dX7_playTick_57 : decode cX7_playTick 57 = .ok (.aload_n 0, 1) := by decide +kernel
theorem dX7_playTick_58 : decode cX7_playTick 58 = .ok (.getfield 69, 3) := by decide +kernel
theorem dX7_playTick_61 : decode cX7_playTick 61 = .ok (.bipush 60, 2) := by decide +kernel
theorem dX7_playTick_63 : decode cX7_playTick 63 = .ok (.idiv, 1) := by decide +kernel
theorem dX7_playTick_64 : decode cX7_playTick 64 = .ok (.bipush 24, 2) := by decide +kernel
theorem dX7_playTick_66 : decode cX7_playTick 66 = .ok (.invokestatic 266, 3) := by decide +kernel
theorem dX7_playTick_69 : decode cX7_playTick 69 = .ok (.aload_n 0, 1) := by decide +kernel
theorem dX7_playTick_70 : decode cX7_playTick 70 = .ok (.getfield 47, 3) := by decide +kernel
theorem dX7_playTick_73 : decode cX7_playTick 73 = .ok (.invokevirtual 269, 3) := by decide +kernel
theorem dX7_playTick_76 : decode cX7_playTick 76 = .ok (.invokevirtual 273, 3) := by decide +kernel
theorem dX7_playTick_79 : decode cX7_playTick 79 = .ok (.aload_n 0, 1) := by decide +kernel
theorem dX7_playTick_80 : decode cX7_playTick 80 = .ok (.dup, 1) := by decide +kernel
theorem dX7_playTick_81 : decode cX7_playTick 81 = .ok (.getfield 69, 3) := by decide +kernel
theorem dX7_playTick_84 : decode cX7_playTick 84 = .ok (.iconst 1, 1) := by decide +kernel
theorem dX7_playTick_85 : decode cX7_playTick 85 = .ok (.iadd, 1) := by decide +kernel
theorem dX7_playTick_86 : decode cX7_playTick 86 = .ok (.putfield 69, 3) := by decide +kernel
theorem dX7_playTick_89 : decode cX7_playTick 89 = .ok (.return_, 1) := by decide +kernel
theorem dX7_wakeIfCalledFor_0 : decode cX7_wakeIfCalledFor 0 = .ok (.aload_n 0, 1) := by decide +kernel
theorem dX7_wakeIfCalledFor_1 : decode cX7_wakeIfCalledFor 1 = .ok (.invokevirtual 277, 3) := by decide +kernel
theorem dX7_wakeIfCalledFor_4 : decode cX7_wakeIfCalledFor 4 = .ok (.ifCond .ne 7, 3) := by decide +kernel
theorem dX7_wakeIfCalledFor_7 : decode cX7_wakeIfCalledFor 7 = .ok (.iconst 1, 1) := by decide +kernel
theorem dX7_wakeIfCalledFor_8 : decode cX7_wakeIfCalledFor 8 = .ok (.goto 4, 3) := by decide +kernel
theorem dX7_wakeIfCalledFor_11 : decode cX7_wakeIfCalledFor 11 = .ok (.iconst 0, 1) := by decide +kernel
theorem dX7_wakeIfCalledFor_12 : decode cX7_wakeIfCalledFor 12 = .ok (.istore_n 1, 1) := by decide +kernel
theorem dX7_wakeIfCalledFor_13 : decode cX7_wakeIfCalledFor 13 = .ok (.iload_n 1, 1) := by decide +kernel
theorem dX7_wakeIfCalledFor_14 : decode cX7_wakeIfCalledFor 14 = .ok (.ifCond .ne 18, 3) := by decide +kernel
theorem dX7_wakeIfCalledFor_17 : decode cX7_wakeIfCalledFor 17 = .ok (.aload_n 0, 1) := by decide +kernel
theorem dX7_wakeIfCalledFor_18 : decode cX7_wakeIfCalledFor 18 = .ok (.getfield 34, 3) := by decide +kernel
theorem dX7_wakeIfCalledFor_21 : decode cX7_wakeIfCalledFor 21 = .ok (.aload_n 0, 1) := by decide +kernel
theorem dX7_wakeIfCalledFor_22 : decode cX7_wakeIfCalledFor 22 = .ok (.getfield 69, 3) := by decide +kernel
theorem dX7_wakeIfCalledFor_25 : decode cX7_wakeIfCalledFor 25 = .ok (.invokevirtual 280, 3) := by decide +kernel
theorem dX7_wakeIfCalledFor_28 : decode cX7_wakeIfCalledFor 28 = .ok (.ifCond .ne 4, 3) := by decide +kernel
theorem dX7_wakeIfCalledFor_31 : decode cX7_wakeIfCalledFor 31 = .ok (.return_, 1) := by decide +kernel
theorem dX7_wakeIfCalledFor_32 : decode cX7_wakeIfCalledFor 32 = .ok (.iload_n 1, 1) := by decide +kernel
theorem dX7_wakeIfCalledFor_33 : decode cX7_wakeIfCalledFor 33 = .ok (.ifCond .ne 45, 3) := by decide +kernel
theorem dX7_wakeIfCalledFor_36 : decode cX7_wakeIfCalledFor 36 = .ok (.aload_n 0, 1) := by decide +kernel
theorem dX7_wakeIfCalledFor_37 : decode cX7_wakeIfCalledFor 37 = .ok (.getfield 47, 3) := by decide +kernel
theorem dX7_wakeIfCalledFor_40 : decode cX7_wakeIfCalledFor 40 = .ok (.aload_n 0, 1) := by decide +kernel
theorem dX7_wakeIfCalledFor_41 : decode cX7_wakeIfCalledFor 41 = .ok (.getfield 10, 3) := by decide +kernel
theorem dX7_wakeIfCalledFor_44 : decode cX7_wakeIfCalledFor 44 = .ok (.aload_n 0, 1) := by decide +kernel
theorem dX7_wakeIfCalledFor_45 : decode cX7_wakeIfCalledFor 45 = .ok (.getfield 72, 3) := by decide +kernel
theorem dX7_wakeIfCalledFor_48 : decode cX7_wakeIfCalledFor 48 = .ok (.invokevirtual 283, 3) := by decide +kernel
theorem dX7_wakeIfCalledFor_51 : decode cX7_wakeIfCalledFor 51 = .ok (.i2l, 1) := by decide +kernel
theorem dX7_wakeIfCalledFor_52 : decode cX7_wakeIfCalledFor 52 = .ok (.invokevirtual 262, 3) := by decide +kernel
theorem dX7_wakeIfCalledFor_55 : decode cX7_wakeIfCalledFor 55 = .ok (.aload_n 0, 1) := by decide +kernel
theorem dX7_wakeIfCalledFor_56 : decode cX7_wakeIfCalledFor 56 = .ok (.getfield 47, 3) := by decide +kernel
theorem dX7_wakeIfCalledFor_59 : decode cX7_wakeIfCalledFor 59 = .ok (.dup, 1) := by decide +kernel
theorem dX7_wakeIfCalledFor_60 : decode cX7_wakeIfCalledFor 60 = .ok (.getfield 203, 3) := by decide +kernel
theorem dX7_wakeIfCalledFor_63 : decode cX7_wakeIfCalledFor 63 = .ok (.aload_n 0, 1) := by decide +kernel
theorem dX7_wakeIfCalledFor_64 : decode cX7_wakeIfCalledFor 64 = .ok (.getfield 10, 3) := by decide +kernel
theorem dX7_wakeIfCalledFor_67 : decode cX7_wakeIfCalledFor 67 = .ok (.aload_n 0, 1) := by decide +kernel
theorem dX7_wakeIfCalledFor_68 : decode cX7_wakeIfCalledFor 68 = .ok (.getfield 72, 3) := by decide +kernel
theorem dX7_wakeIfCalledFor_71 : decode cX7_wakeIfCalledFor 71 = .ok (.invokevirtual 286, 3) := by decide +kernel
theorem dX7_wakeIfCalledFor_74 : decode cX7_wakeIfCalledFor 74 = .ok (.iadd, 1) := by decide +kernel
theorem dX7_wakeIfCalledFor_75 : decode cX7_wakeIfCalledFor 75 = .ok (.putfield 203, 3) := by decide +kernel
theorem dX7_wakeIfCalledFor_78 : decode cX7_wakeIfCalledFor 78 = .ok (.aload_n 0, 1) := by decide +kernel
theorem dX7_wakeIfCalledFor_79 : decode cX7_wakeIfCalledFor 79 = .ok (.invokevirtual 289, 3) := by decide +kernel
theorem dX7_wakeIfCalledFor_82 : decode cX7_wakeIfCalledFor 82 = .ok (.return_, 1) := by decide +kernel
theorem dX7_wakeForCall_0 : decode cX7_wakeForCall 0 = .ok (.aload_n 0, 1) := by decide +kernel
theorem dX7_wakeForCall_1 : decode cX7_wakeForCall 1 = .ok (.getfield 72, 3) := by decide +kernel
theorem dX7_wakeForCall_4 : decode cX7_wakeForCall 4 = .ok (.ifCond .ne 4, 3) := by decide +kernel
theorem dX7_wakeForCall_7 : decode cX7_wakeForCall 7 = .ok (.return_, 1) := by decide +kernel
theorem dX7_wakeForCall_8 : decode cX7_wakeForCall 8 = .ok (.aload_n 0, 1) := by decide +kernel
theorem dX7_wakeForCall_9 : decode cX7_wakeForCall 9 = .ok (.getfield 47, 3) := by decide +kernel
theorem dX7_wakeForCall_12 : decode cX7_wakeForCall 12 = .ok (.aload_n 0, 1) := by decide +kernel
theorem dX7_wakeForCall_13 : decode cX7_wakeForCall 13 = .ok (.getfield 10, 3) := by decide +kernel
theorem dX7_wakeForCall_16 : decode cX7_wakeForCall 16 = .ok (.aload_n 0, 1) := by decide +kernel
theorem dX7_wakeForCall_17 : decode cX7_wakeForCall 17 = .ok (.getfield 72, 3) := by decide +kernel
theorem dX7_wakeForCall_20 : decode cX7_wakeForCall 20 = .ok (.invokevirtual 283, 3) := by decide +kernel
theorem dX7_wakeForCall_23 : decode cX7_wakeForCall 23 = .ok (.i2l, 1) := by decide +kernel
theorem dX7_wakeForCall_24 : decode cX7_wakeForCall 24 = .ok (.invokevirtual 262, 3) := by decide +kernel
theorem dX7_wakeForCall_27 : decode cX7_wakeForCall 27 = .ok (.aload_n 0, 1) := by decide +kernel
theorem dX7_wakeForCall_28 : decode cX7_wakeForCall 28 = .ok (.invokevirtual 289, 3) := by decide +kernel
theorem dX7_wakeForCall_31 : decode cX7_wakeForCall 31 = .ok (.return_, 1) := by decide +kernel
theorem dX7_endIdleTime_0 : decode cX7_endIdleTime 0 = .ok (.aload_n 0, 1) := by decide +kernel
theorem dX7_endIdleTime_1 : decode cX7_endIdleTime 1 = .ok (.getfield 40, 3) := by decide +kernel
theorem dX7_endIdleTime_4 : decode cX7_endIdleTime 4 = .ok (.aload_n 0, 1) := by decide +kernel
theorem dX7_endIdleTime_5 : decode cX7_endIdleTime 5 = .ok (.getfield 69, 3) := by decide +kernel
theorem dX7_endIdleTime_8 : decode cX7_endIdleTime 8 = .ok (.aload_n 0, 1) := by decide +kernel
theorem dX7_endIdleTime_9 : decode cX7_endIdleTime 9 = .ok (.getfield 75, 3) := by decide +kernel
theorem dX7_endIdleTime_12 : decode cX7_endIdleTime 12 = .ok (.isub, 1) := by decide +kernel
theorem dX7_endIdleTime_13 : decode cX7_endIdleTime 13 = .ok (.invokevirtual 292, 3) := by decide +kernel
theorem dX7_endIdleTime_16 : decode cX7_endIdleTime 16 = .ok (.aload_n 0, 1) := by decide +kernel
theorem dX7_endIdleTime_17 : decode cX7_endIdleTime 17 = .ok (.iconst 0, 1) := by decide +kernel
theorem dX7_endIdleTime_18 : decode cX7_endIdleTime 18 = .ok (.putfield 72, 3) := by decide +kernel
theorem dX7_endIdleTime_21 : decode cX7_endIdleTime 21 = .ok (.return_, 1) := by decide +kernel
theorem dX7_serveWhatIsDue_0 : decode cX7_serveWhatIsDue 0 = .ok (.aload_n 0, 1) := by decide +kernel
theorem dX7_serveWhatIsDue_1 : decode cX7_serveWhatIsDue 1 = .ok (.getfield 34, 3) := by decide +kernel
theorem dX7_serveWhatIsDue_4 : decode cX7_serveWhatIsDue 4 = .ok (.aload_n 0, 1) := by decide +kernel
theorem dX7_serveWhatIsDue_5 : decode cX7_serveWhatIsDue 5 = .ok (.getfield 69, 3) := by decide +kernel
theorem dX7_serveWhatIsDue_8 : decode cX7_serveWhatIsDue 8 = .ok (.invokevirtual 295, 3) := by decide +kernel
theorem dX7_serveWhatIsDue_11 : decode cX7_serveWhatIsDue 11 = .ok (.aload_n 0, 1) := by decide +kernel
theorem dX7_serveWhatIsDue_12 : decode cX7_serveWhatIsDue 12 = .ok (.getfield 30, 3) := by decide +kernel
theorem dX7_serveWhatIsDue_15 : decode cX7_serveWhatIsDue 15 = .ok (.aload_n 0, 1) := by decide +kernel
theorem dX7_serveWhatIsDue_16 : decode cX7_serveWhatIsDue 16 = .ok (.getfield 69, 3) := by decide +kernel
theorem dX7_serveWhatIsDue_19 : decode cX7_serveWhatIsDue 19 = .ok (.invokevirtual 295, 3) := by decide +kernel
theorem dX7_serveWhatIsDue_22 : decode cX7_serveWhatIsDue 22 = .ok (.iadd, 1) := by decide +kernel
theorem dX7_serveWhatIsDue_23 : decode cX7_serveWhatIsDue 23 = .ok (.istore_n 1, 1) := by decide +kernel
theorem dX7_serveWhatIsDue_24 : decode cX7_serveWhatIsDue 24 = .ok (.aload_n 0, 1) := by decide +kernel
theorem dX7_serveWhatIsDue_25 : decode cX7_serveWhatIsDue 25 = .ok (.getfield 47, 3) := by decide +kernel
theorem dX7_serveWhatIsDue_28 : decode cX7_serveWhatIsDue 28 = .ok (.dup, 1) := by decide +kernel
theorem dX7_serveWhatIsDue_29 : decode cX7_serveWhatIsDue 29 = .ok (.getfield 206, 3) := by decide +kernel
theorem dX7_serveWhatIsDue_32 : decode cX7_serveWhatIsDue 32 = .ok (.iload_n 1, 1) := by decide +kernel
theorem dX7_serveWhatIsDue_33 : decode cX7_serveWhatIsDue 33 = .ok (.iadd, 1) := by decide +kernel
theorem dX7_serveWhatIsDue_34 : decode cX7_serveWhatIsDue 34 = .ok (.putfield 206, 3) := by decide +kernel
theorem dX7_serveWhatIsDue_37 : decode cX7_serveWhatIsDue 37 = .ok (.aload_n 0, 1) := by decide +kernel
theorem dX7_serveWhatIsDue_38 : decode cX7_serveWhatIsDue 38 = .ok (.getfield 47, 3) := by decide +kernel
theorem dX7_serveWhatIsDue_41 : decode cX7_serveWhatIsDue 41 = .ok (.iload_n 1, 1) := by decide +kernel
theorem dX7_serveWhatIsDue_42 : decode cX7_serveWhatIsDue 42 = .ok (.i2l, 1) := by decide +kernel
theorem dX7_serveWhatIsDue_43 : decode cX7_serveWhatIsDue 43 = .ok (.aload_n 0, 1) := by decide +kernel
theorem dX7_serveWhatIsDue_44 : decode cX7_serveWhatIsDue 44 = .ok (.getfield 10, 3) := by decide +kernel
theorem dX7_serveWhatIsDue_47 : decode cX7_serveWhatIsDue 47 = .ok (.iconst 0, 1) := by decide +kernel
theorem dX7_serveWhatIsDue_48 : decode cX7_serveWhatIsDue 48 = .ok (.invokevirtual 98, 3) := by decide +kernel
theorem dX7_serveWhatIsDue_51 : decode cX7_serveWhatIsDue 51 = .ok (.i2l, 1) := by decide +kernel
theorem dX7_serveWhatIsDue_52 : decode cX7_serveWhatIsDue 52 = .ok (.lmul, 1) := by decide +kernel
theorem dX7_serveWhatIsDue_53 : decode cX7_serveWhatIsDue 53 = .ok (.invokevirtual 262, 3) := by decide +kernel
theorem dX7_serveWhatIsDue_56 : decode cX7_serveWhatIsDue 56 = .ok (.return_, 1) := by decide +kernel
theorem dX7_chooseState_0 : decode cX7_chooseState 0 = .ok (.aload_n 0, 1) := by decide +kernel
theorem dX7_chooseState_1 : decode cX7_chooseState 1 = .ok (.invokevirtual 277, 3) := by decide +kernel
theorem dX7_chooseState_4 : decode cX7_chooseState 4 = .ok (.istore_n 1, 1) := by decide +kernel
theorem dX7_chooseState_5 : decode cX7_chooseState 5 = .ok (.aload_n 0, 1) := by decide +kernel
theorem dX7_chooseState_6 : decode cX7_chooseState 6 = .ok (.getfield 65, 3) := by decide +kernel
theorem dX7_chooseState_9 : decode cX7_chooseState 9 = .ok (.ifCond .ne 16, 3) := by decide +kernel
theorem dX7_chooseState_12 : decode cX7_chooseState 12 = .ok (.aload_n 0, 1) := by decide +kernel
theorem dX7_chooseState_13 : decode cX7_chooseState 13 = .ok (.getfield 10, 3) := by decide +kernel
theorem dX7_chooseState_16 : decode cX7_chooseState 16 = .ok (.aload_n 0, 1) := by decide +kernel
theorem dX7_chooseState_17 : decode cX7_chooseState 17 = .ok (.invokevirtual 233, 3) := by decide +kernel
theorem dX7_chooseState_20 : decode cX7_chooseState 20 = .ok (.iload_n 1, 1) := by decide +kernel
theorem dX7_chooseState_21 : decode cX7_chooseState 21 = .ok (.invokevirtual 298, 3) := by decide +kernel
theorem dX7_chooseState_24 : decode cX7_chooseState 24 = .ok (.ireturn, 1) := by decide +kernel
theorem dX7_chooseState_25 : decode cX7_chooseState 25 = .ok (.aload_n 0, 1) := by decide +kernel
theorem dX7_chooseState_26 : decode cX7_chooseState 26 = .ok (.getfield 65, 3) := by decide +kernel
theorem dX7_chooseState_29 : decode cX7_chooseState 29 = .ok (.iconst 2, 1) := by decide +kernel
theorem dX7_chooseState_30 : decode cX7_chooseState 30 = .ok (.if_icmp .ne 25, 3) := by decide +kernel
theorem dX7_chooseState_33 : decode cX7_chooseState 33 = .ok (.aload_n 0, 1) := by decide +kernel
theorem dX7_chooseState_34 : decode cX7_chooseState 34 = .ok (.getfield 40, 3) := by decide +kernel
theorem dX7_chooseState_37 : decode cX7_chooseState 37 = .ok (.getfield 301, 3) := by decide +kernel
theorem dX7_chooseState_40 : decode cX7_chooseState 40 = .ok (.ifCond .le 15, 3) := by decide +kernel
theorem dX7_chooseState_43 : decode cX7_chooseState 43 = .ok (.iload_n 1, 1) := by decide +kernel
theorem dX7_chooseState_44 : decode cX7_chooseState 44 = .ok (.aload_n 0, 1) := by decide +kernel
theorem dX7_chooseState_45 : decode cX7_chooseState 45 = .ok (.getfield 40, 3) := by decide +kernel
theorem dX7_chooseState_48 : decode cX7_chooseState 48 = .ok (.invokevirtual 302, 3) := by decide +kernel
theorem dX7_chooseState_51 : decode cX7_chooseState 51 = .ok (.invokestatic 155, 3) := by decide +kernel
theorem dX7_chooseState_54 : decode cX7_chooseState 54 = .ok (.istore_n 1, 1) := by decide +kernel
theorem dX7_chooseState_55 : decode cX7_chooseState 55 = .ok (.aload_n 0, 1) := by decide +kernel
theorem dX7_chooseState_56 : decode cX7_chooseState 56 = .ok (.getfield 10, 3) := by decide +kernel
theorem dX7_chooseState_59 : decode cX7_chooseState 59 = .ok (.aload_n 0, 1) := by decide +kernel
theorem dX7_chooseState_60 : decode cX7_chooseState 60 = .ok (.invokevirtual 233, 3) := by decide +kernel
theorem dX7_chooseState_63 : decode cX7_chooseState 63 = .ok (.iload_n 1, 1) := by decide +kernel
theorem dX7_chooseState_64 : decode cX7_chooseState 64 = .ok (.invokevirtual 305, 3) := by decide +kernel
theorem dX7_chooseState_67 : decode cX7_chooseState 67 = .ok (.ireturn, 1) := by decide +kernel
theorem dX7_fallAsleep_0 : decode cX7_fallAsleep 0 = .ok (.iload_n 1, 1) := by decide +kernel
theorem dX7_fallAsleep_1 : decode cX7_fallAsleep 1 = .ok (.ifCond .ne 4, 3) := by decide +kernel
theorem dX7_fallAsleep_4 : decode cX7_fallAsleep 4 = .ok (.return_, 1) := by decide +kernel
theorem dX7_fallAsleep_5 : decode cX7_fallAsleep 5 = .ok (.aload_n 0, 1) := by decide +kernel
theorem dX7_fallAsleep_6 : decode cX7_fallAsleep 6 = .ok (.iload_n 1, 1) := by decide +kernel
theorem dX7_fallAsleep_7 : decode cX7_fallAsleep 7 = .ok (.putfield 72, 3) := by decide +kernel
theorem dX7_fallAsleep_10 : decode cX7_fallAsleep 10 = .ok (.aload_n 0, 1) := by decide +kernel
theorem dX7_fallAsleep_11 : decode cX7_fallAsleep 11 = .ok (.aload_n 0, 1) := by decide +kernel
theorem dX7_fallAsleep_12 : decode cX7_fallAsleep 12 = .ok (.getfield 69, 3) := by decide +kernel
theorem dX7_fallAsleep_15 : decode cX7_fallAsleep 15 = .ok (.putfield 75, 3) := by decide +kernel
theorem dX7_fallAsleep_18 : decode cX7_fallAsleep 18 = .ok (.aload_n 0, 1) := by decide +kernel
theorem dX7_fallAsleep_19 : decode cX7_fallAsleep 19 = .ok (.getfield 47, 3) := by decide +kernel
theorem dX7_fallAsleep_22 : decode cX7_fallAsleep 22 = .ok (.dup, 1) := by decide +kernel
theorem dX7_fallAsleep_23 : decode cX7_fallAsleep 23 = .ok (.getfield 200, 3) := by decide +kernel
theorem dX7_fallAsleep_26 : decode cX7_fallAsleep 26 = .ok (.iconst 1, 1) := by decide +kernel
theorem dX7_fallAsleep_27 : decode cX7_fallAsleep 27 = .ok (.iadd, 1) := by decide +kernel
theorem dX7_fallAsleep_28 : decode cX7_fallAsleep 28 = .ok (.putfield 200, 3) := by decide +kernel
theorem dX7_fallAsleep_31 : decode cX7_fallAsleep 31 = .ok (.aload_n 0, 1) := by decide +kernel
theorem dX7_fallAsleep_32 : decode cX7_fallAsleep 32 = .ok (.getfield 47, 3) := by decide +kernel
theorem dX7_fallAsleep_35 : decode cX7_fallAsleep 35 = .ok (.aload_n 0, 1) := by decide +kernel
theorem dX7_fallAsleep_36 : decode cX7_fallAsleep 36 = .ok (.getfield 10, 3) := by decide +kernel
theorem dX7_fallAsleep_39 : decode cX7_fallAsleep 39 = .ok (.iload_n 1, 1) := by decide +kernel
theorem dX7_fallAsleep_40 : decode cX7_fallAsleep 40 = .ok (.invokevirtual 308, 3) := by decide +kernel
theorem dX7_fallAsleep_43 : decode cX7_fallAsleep 43 = .ok (.i2l, 1) := by decide +kernel
theorem dX7_fallAsleep_44 : decode cX7_fallAsleep 44 = .ok (.invokevirtual 262, 3) := by decide +kernel
theorem dX7_fallAsleep_47 : decode cX7_fallAsleep 47 = .ok (.return_, 1) := by decide +kernel
theorem dX7_powerOfTick_0 : decode cX7_powerOfTick 0 = .ok (.aload_n 0, 1) := by decide +kernel
theorem dX7_powerOfTick_1 : decode cX7_powerOfTick 1 = .ok (.invokevirtual 277, 3) := by decide +kernel
theorem dX7_powerOfTick_4 : decode cX7_powerOfTick 4 = .ok (.aload_n 0, 1) := by decide +kernel
theorem dX7_powerOfTick_5 : decode cX7_powerOfTick 5 = .ok (.getfield 10, 3) := by decide +kernel
theorem dX7_powerOfTick_8 : decode cX7_powerOfTick 8 = .ok (.aload_n 0, 1) := by decide +kernel
theorem dX7_powerOfTick_9 : decode cX7_powerOfTick 9 = .ok (.getfield 72, 3) := by decide +kernel
theorem dX7_powerOfTick_12 : decode cX7_powerOfTick 12 = .ok (.invokevirtual 286, 3) := by decide +kernel
theorem dX7_powerOfTick_15 : decode cX7_powerOfTick 15 = .ok (.if_icmp .gt 7, 3) := by decide +kernel
theorem dX7_powerOfTick_18 : decode cX7_powerOfTick 18 = .ok (.iconst 1, 1) := by decide +kernel
theorem dX7_powerOfTick_19 : decode cX7_powerOfTick 19 = .ok (.goto 4, 3) := by decide +kernel
theorem dX7_powerOfTick_22 : decode cX7_powerOfTick 22 = .ok (.iconst 0, 1) := by decide +kernel
theorem dX7_powerOfTick_23 : decode cX7_powerOfTick 23 = .ok (.istore_n 1, 1) := by decide +kernel
theorem dX7_powerOfTick_24 : decode cX7_powerOfTick 24 = .ok (.aload_n 0, 1) := by decide +kernel
theorem dX7_powerOfTick_25 : decode cX7_powerOfTick 25 = .ok (.getfield 10, 3) := by decide +kernel
theorem dX7_powerOfTick_28 : decode cX7_powerOfTick 28 = .ok (.iload_n 1, 1) := by decide +kernel
theorem dX7_powerOfTick_29 : decode cX7_powerOfTick 29 = .ok (.ifCond .eq 7, 3) := by decide +kernel
theorem dX7_powerOfTick_32 : decode cX7_powerOfTick 32 = .ok (.iconst 0, 1) := by decide +kernel
theorem dX7_powerOfTick_33 : decode cX7_powerOfTick 33 = .ok (.goto 7, 3) := by decide +kernel
theorem dX7_powerOfTick_36 : decode cX7_powerOfTick 36 = .ok (.aload_n 0, 1) := by decide +kernel
theorem dX7_powerOfTick_37 : decode cX7_powerOfTick 37 = .ok (.getfield 72, 3) := by decide +kernel
theorem dX7_powerOfTick_40 : decode cX7_powerOfTick 40 = .ok (.invokevirtual 98, 3) := by decide +kernel
theorem dX7_powerOfTick_43 : decode cX7_powerOfTick 43 = .ok (.ireturn, 1) := by decide +kernel
theorem dX7_ticksToWakeup_0 : decode cX7_ticksToWakeup 0 = .ok (.aload_n 0, 1) := by decide +kernel
theorem dX7_ticksToWakeup_1 : decode cX7_ticksToWakeup 1 = .ok (.invokevirtual 311, 3) := by decide +kernel
theorem dX7_ticksToWakeup_4 : decode cX7_ticksToWakeup 4 = .ok (.istore_n 1, 1) := by decide +kernel
theorem dX7_ticksToWakeup_5 : decode cX7_ticksToWakeup 5 = .ok (.iload_n 1, 1) := by decide +kernel
theorem dX7_ticksToWakeup_6 : decode cX7_ticksToWakeup 6 = .ok (.iconst (-1), 1) := by decide +kernel
theorem dX7_ticksToWakeup_7 : decode cX7_ticksToWakeup 7 = .ok (.if_icmp .ne 8, 3) := by decide +kernel
theorem dX7_ticksToWakeup_10 : decode cX7_ticksToWakeup 10 = .ok (.ldc 180, 2) := by decide +kernel
theorem dX7_ticksToWakeup_12 : decode cX7_ticksToWakeup 12 = .ok (.goto 9, 3) := by decide +kernel
theorem dX7_ticksToWakeup_15 : decode cX7_ticksToWakeup 15 = .ok (.iload_n 1, 1) := by decide +kernel
theorem dX7_ticksToWakeup_16 : decode cX7_ticksToWakeup 16 = .ok (.aload_n 0, 1) := by decide +kernel
theorem dX7_ticksToWakeup_17 : decode cX7_ticksToWakeup 17 = .ok (.getfield 69, 3) := by decide +kernel
theorem dX7_ticksToWakeup_20 : decode cX7_ticksToWakeup 20 = .ok (.isub, 1) := by decide +kernel
theorem dX7_ticksToWakeup_21 : decode cX7_ticksToWakeup 21 = .ok (.ireturn, 1) := by decide +kernel
theorem dX7_isWithin_0 : decode cX7_isWithin 0 = .ok (.iload_n 0, 1) := by decide +kernel
theorem dX7_isWithin_1 : decode cX7_isWithin 1 = .ok (.iload_n 1, 1) := by decide +kernel
theorem dX7_isWithin_2 : decode cX7_isWithin 2 = .ok (.if_icmp .lt 12, 3) := by decide +kernel
theorem dX7_isWithin_5 : decode cX7_isWithin 5 = .ok (.iload_n 0, 1) := by decide +kernel
theorem dX7_isWithin_6 : decode cX7_isWithin 6 = .ok (.iload_n 2, 1) := by decide +kernel
theorem dX7_isWithin_7 : decode cX7_isWithin 7 = .ok (.if_icmp .gt 7, 3) := by decide +kernel
theorem dX7_isWithin_10 : decode cX7_isWithin 10 = .ok (.iconst 1, 1) := by decide +kernel
theorem dX7_isWithin_11 : decode cX7_isWithin 11 = .ok (.goto 4, 3) := by decide +kernel
theorem dX7_isWithin_14 : decode cX7_isWithin 14 = .ok (.iconst 0, 1) := by decide +kernel
theorem dX7_isWithin_15 : decode cX7_isWithin 15 = .ok (.ireturn, 1) := by decide +kernel
theorem dX7_read_0 : decode cX7_read 0 = .ok (.iload_n 1, 1) := by decide +kernel
theorem dX7_read_1 : decode cX7_read 1 = .ok (.ifCond .lt 15, 3) := by decide +kernel
theorem dX7_read_4 : decode cX7_read 4 = .ok (.iload_n 1, 1) := by decide +kernel
theorem dX7_read_5 : decode cX7_read 5 = .ok (.aload_n 0, 1) := by decide +kernel
theorem dX7_read_6 : decode cX7_read 6 = .ok (.arraylength, 1) := by decide +kernel
theorem dX7_read_7 : decode cX7_read 7 = .ok (.if_icmp .ge 9, 3) := by decide +kernel
theorem dX7_read_10 : decode cX7_read 10 = .ok (.aload_n 0, 1) := by decide +kernel
theorem dX7_read_11 : decode cX7_read 11 = .ok (.iload_n 1, 1) := by decide +kernel
theorem dX7_read_12 : decode cX7_read 12 = .ok (.iaload, 1) := by decide +kernel
theorem dX7_read_13 : decode cX7_read 13 = .ok (.goto 4, 3) := by decide +kernel
theorem dX7_read_16 : decode cX7_read 16 = .ok (.iconst 0, 1) := by decide +kernel
theorem dX7_read_17 : decode cX7_read 17 = .ok (.ireturn, 1) := by decide +kernel
theorem dX7_exchange_0 : decode cX7_exchange 0 = .ok (.iload_n 1, 1) := by decide +kernel
theorem dX7_exchange_1 : decode cX7_exchange 1 = .ok (.ifCond .lt 9, 3) := by decide +kernel
theorem dX7_exchange_4 : decode cX7_exchange 4 = .ok (.iload_n 1, 1) := by decide +kernel
theorem dX7_exchange_5 : decode cX7_exchange 5 = .ok (.aload_n 0, 1) := by decide +kernel
theorem dX7_exchange_6 : decode cX7_exchange 6 = .ok (.arraylength, 1) := by decide +kernel
theorem dX7_exchange_7 : decode cX7_exchange 7 = .ok (.if_icmp .lt 5, 3) := by decide +kernel
theorem dX7_exchange_10 : decode cX7_exchange 10 = .ok (.iconst 0, 1) := by decide +kernel
theorem dX7_exchange_11 : decode cX7_exchange 11 = .ok (.ireturn, 1) := by decide +kernel
theorem dX7_exchange_12 : decode cX7_exchange 12 = .ok (.aload_n 0, 1) := by decide +kernel
theorem dX7_exchange_13 : decode cX7_exchange 13 = .ok (.iload_n 1, 1) := by decide +kernel
theorem dX7_exchange_14 : decode cX7_exchange 14 = .ok (.iaload, 1) := by decide +kernel
theorem dX7_exchange_15 : decode cX7_exchange 15 = .ok (.istore_n 3, 1) := by decide +kernel
theorem dX7_exchange_16 : decode cX7_exchange 16 = .ok (.aload_n 0, 1) := by decide +kernel
theorem dX7_exchange_17 : decode cX7_exchange 17 = .ok (.iload_n 1, 1) := by decide +kernel
theorem dX7_exchange_18 : decode cX7_exchange 18 = .ok (.iload_n 2, 1) := by decide +kernel
theorem dX7_exchange_19 : decode cX7_exchange 19 = .ok (.iastore, 1) := by decide +kernel
theorem dX7_exchange_20 : decode cX7_exchange 20 = .ok (.iload_n 3, 1) := by decide +kernel
theorem dX7_exchange_21 : decode cX7_exchange 21 = .ok (.ireturn, 1) := by decide +kernel
end
section
theorem dX8_init_0 : decode cX8_init 0 = .ok (.aload_n 0, 1) := by decide +kernel
theorem dX8_init_1 : decode cX8_init 1 = .ok (.invokespecial 1, 3) := by decide +kernel
theorem dX8_init_4 : decode cX8_init 4 = .ok (.aload_n 0, 1) := by decide +kernel
theorem dX8_init_5 : decode cX8_init 5 = .ok (.iconst 4, 1) := by decide +kernel
theorem dX8_init_6 : decode cX8_init 6 = .ok (.newarray .int, 2) := by decide +kernel
theorem dX8_init_8 : decode cX8_init 8 = .ok (.putfield 7, 3) := by decide +kernel
theorem dX8_init_11 : decode cX8_init 11 = .ok (.aload_n 0, 1) := by decide +kernel
theorem dX8_init_12 : decode cX8_init 12 = .ok (.iconst 4, 1) := by decide +kernel
theorem dX8_init_13 : decode cX8_init 13 = .ok (.newarray .int, 2) := by decide +kernel
theorem dX8_init_15 : decode cX8_init 15 = .ok (.putfield 13, 3) := by decide +kernel
theorem dX8_init_18 : decode cX8_init 18 = .ok (.aload_n 0, 1) := by decide +kernel
theorem dX8_init_19 : decode cX8_init 19 = .ok (.iconst 4, 1) := by decide +kernel
theorem dX8_init_20 : decode cX8_init 20 = .ok (.newarray .int, 2) := by decide +kernel
theorem dX8_init_22 : decode cX8_init 22 = .ok (.putfield 16, 3) := by decide +kernel
theorem dX8_init_25 : decode cX8_init 25 = .ok (.aload_n 0, 1) := by decide +kernel
theorem dX8_init_26 : decode cX8_init 26 = .ok (.bipush 6, 2) := by decide +kernel
theorem dX8_init_28 : decode cX8_init 28 = .ok (.newarray .int, 2) := by decide +kernel
theorem dX8_init_30 : decode cX8_init 30 = .ok (.putfield 19, 3) := by decide +kernel
theorem dX8_init_33 : decode cX8_init 33 = .ok (.aload_n 0, 1) := by decide +kernel
theorem dX8_init_34 : decode cX8_init 34 = .ok (.iconst 1, 1) := by decide +kernel
theorem dX8_init_35 : decode cX8_init 35 = .ok (.putfield 22, 3) := by decide +kernel
theorem dX8_init_38 : decode cX8_init 38 = .ok (.aload_n 0, 1) := by decide +kernel
theorem dX8_init_39 : decode cX8_init 39 = .ok (.bipush 8, 2) := by decide +kernel
theorem dX8_init_41 : decode cX8_init 41 = .ok (.newarray .int, 2) := by decide +kernel
theorem dX8_init_43 : decode cX8_init 43 = .ok (.putfield 26, 3) := by decide +kernel
theorem dX8_init_46 : decode cX8_init 46 = .ok (.aload_n 0, 1) := by decide +kernel
theorem dX8_init_47 : decode cX8_init 47 = .ok (.bipush 8, 2) := by decide +kernel
theorem dX8_init_49 : decode cX8_init 49 = .ok (.newarray .int, 2) := by decide +kernel
theorem dX8_init_51 : decode cX8_init 51 = .ok (.putfield 29, 3) := by decide +kernel
theorem dX8_init_54 : decode cX8_init 54 = .ok (.aload_n 0, 1) := by decide +kernel
theorem dX8_init_55 : decode cX8_init 55 = .ok (.bipush 8, 2) := by decide +kernel
theorem dX8_init_57 : decode cX8_init 57 = .ok (.newarray .int, 2) := by decide +kernel
theorem dX8_init_59 : decode cX8_init 59 = .ok (.putfield 32, 3) := by decide +kernel
theorem dX8_init_62 : decode cX8_init 62 = .ok (.aload_n 0, 1) := by decide +kernel
theorem dX8_init_63 : decode cX8_init 63 = .ok (.bipush 8, 2) := by decide +kernel
theorem dX8_init_65 : decode cX8_init 65 = .ok (.newarray .int, 2) := by decide +kernel
theorem dX8_init_67 : decode cX8_init 67 = .ok (.putfield 35, 3) := by decide +kernel
theorem dX8_init_70 : decode cX8_init 70 = .ok (.aload_n 0, 1) := by decide +kernel
theorem dX8_init_71 : decode cX8_init 71 = .ok (.bipush 8, 2) := by decide +kernel
theorem dX8_init_73 : decode cX8_init 73 = .ok (.newarray .boolean, 2) := by decide +kernel
theorem dX8_init_75 : decode cX8_init 75 = .ok (.putfield 38, 3) := by decide +kernel
theorem dX8_init_78 : decode cX8_init 78 = .ok (.aload_n 0, 1) := by decide +kernel
theorem dX8_init_79 : decode cX8_init 79 = .ok (.bipush 12, 2) := by decide +kernel
theorem dX8_init_81 : decode cX8_init 81 = .ok (.newarray .int, 2) := by decide +kernel
theorem dX8_init_83 : decode cX8_init 83 = .ok (.putfield 42, 3) := by decide +kernel
theorem dX8_init_86 : decode cX8_init 86 = .ok (.aload_n 0, 1) := by decide +kernel
theorem dX8_init_87 : decode cX8_init 87 = .ok (.bipush 12, 2) := by decide +kernel
theorem dX8_init_89 : decode cX8_init 89 = .ok (.newarray .int, 2) := by decide +kernel
theorem dX8_init_91 : decode cX8_init 91 = .ok (.putfield 45, 3) := by decide +kernel
theorem dX8_init_94 : decode cX8_init 94 = .ok (.aload_n 0, 1) := by decide +kernel
theorem dX8_init_95 : decode cX8_init 95 = .ok (.bipush 12, 2) := by decide +kernel
theorem dX8_init_97 : decode cX8_init 97 = .ok (.newarray .int, 2) := by decide +kernel
theorem dX8_init_99 : decode cX8_init 99 = .ok (.putfield 48, 3) := by decide +kernel
theorem dX8_init_102 : decode cX8_init 102 = .ok (.aload_n 0, 1) := by decide +kernel
theorem dX8_init_103 : decode cX8_init 103 = .ok (.bipush 12, 2) := by decide +kernel
theorem dX8_init_105 : decode cX8_init 105 = .ok (.newarray .int, 2) := by decide +kernel
theorem dX8_init_107 : decode cX8_init 107 = .ok (.putfield 51, 3) := by decide +kernel
theorem dX8_init_110 : decode cX8_init 110 = .ok (.aload_n 0, 1) := by decide +kernel
theorem dX8_init_111 : decode cX8_init 111 = .ok (.bipush 12, 2) := by decide +kernel
theorem dX8_init_113 : decode cX8_init 113 = .ok (.newarray .int, 2) := by decide +kernel
theorem dX8_init_115 : decode cX8_init 115 = .ok (.putfield 54, 3) := by decide +kernel
theorem dX8_init_118 : decode cX8_init 118 = .ok (.aload_n 0, 1) := by decide +kernel
theorem dX8_init_119 : decode cX8_init 119 = .ok (.iconst 1, 1) := by decide +kernel
theorem dX8_init_120 : decode cX8_init 120 = .ok (.putfield 57, 3) := by decide +kernel
theorem dX8_init_123 : decode cX8_init 123 = .ok (.aload_n 0, 1) := by decide +kernel
theorem dX8_init_124 : decode cX8_init 124 = .ok (.iconst 4, 1) := by decide +kernel
theorem dX8_init_125 : decode cX8_init 125 = .ok (.newarray .int, 2) := by decide +kernel
theorem dX8_init_127 : decode cX8_init 127 = .ok (.putfield 60, 3) := by decide +kernel
theorem dX8_init_130 : decode cX8_init 130 = .ok (.aload_n 0, 1) := by decide +kernel
theorem dX8_init_131 : decode cX8_init 131 = .ok (.iconst 4, 1) := by decide +kernel
theorem dX8_init_132 : decode cX8_init 132 = .ok (.newarray .int, 2) := by decide +kernel
theorem dX8_init_134 : decode cX8_init 134 = .ok (.putfield 63, 3) := by decide +kernel
theorem dX8_init_137 : decode cX8_init 137 = .ok (.aload_n 0, 1) := by decide +kernel
theorem dX8_init_138 : decode cX8_init 138 = .ok (.bipush 24, 2) := by decide +kernel
theorem dX8_init_140 : decode cX8_init 140 = .ok (.newarray .int, 2) := by decide +kernel
theorem dX8_init_142 : decode cX8_init 142 = .ok (.putfield 66, 3) := by decide +kernel
theorem dX8_init_145 : decode cX8_init 145 = .ok (.aload_n 0, 1) := by decide +kernel
theorem dX8_init_146 : decode cX8_init 146 = .ok (.ldc 69, 2) := by decide +kernel
theorem dX8_init_148 : decode cX8_init 148 = .ok (.putfield 70, 3) := by decide +kernel
theorem dX8_init_151 : decode cX8_init 151 = .ok (.aload_n 0, 1) := by decide +kernel
theorem dX8_init_152 : decode cX8_init 152 = .ok (.ldc 73, 2) := by decide +kernel
theorem dX8_init_154 : decode cX8_init 154 = .ok (.putfield 74, 3) := by decide +kernel
theorem dX8_init_157 : decode cX8_init 157 = .ok (.aload_n 0, 1) := by decide +kernel
theorem dX8_init_158 : decode cX8_init 158 = .ok (.sipush 401, 3) := by decide +kernel
theorem dX8_init_161 : decode cX8_init 161 = .ok (.newarray .long, 2) := by decide +kernel
theorem dX8_init_163 : decode cX8_init 163 = .ok (.putfield 77, 3) := by decide +kernel
theorem dX8_init_166 : decode cX8_init 166 = .ok (.aload_n 0, 1) := by decide +kernel
theorem dX8_init_167 : decode cX8_init 167 = .ok (.sipush 401, 3) := by decide +kernel
theorem dX8_init_170 : decode cX8_init 170 = .ok (.newarray .long, 2) := by decide +kernel
theorem dX8_init_172 : decode cX8_init 172 = .ok (.putfield 81, 3) := by decide +kernel
theorem dX8_init_175 : decode cX8_init 175 = .ok (.aload_n 0, 1) := by decide +kernel
theorem dX8_init_176 : decode cX8_init 176 = .ok (.getfield 7, 3) := by decide +kernel
theorem dX8_init_179 : decode cX8_init 179 = .ok (.iconst 0, 1) := by decide +kernel
theorem dX8_init_180 : decode cX8_init 180 = .ok (.bipush 100, 2) := by decide +kernel
theorem dX8_init_182 : decode cX8_init 182 = .ok (.iastore, 1) := by decide +kernel
theorem dX8_init_183 : decode cX8_init 183 = .ok (.aload_n 0, 1) := by decide +kernel
theorem dX8_init_184 : decode cX8_init 184 = .ok (.getfield 7, 3) := by decide +kernel
theorem dX8_init_187 : decode cX8_init 187 = .ok (.iconst 1, 1) := by decide +kernel
theorem dX8_init_188 : decode cX8_init 188 = .ok (.bipush 40, 2) := by decide +kernel
theorem dX8_init_190 : decode cX8_init 190 = .ok (.iastore, 1) := by decide +kernel
theorem dX8_init_191 : decode cX8_init 191 = .ok (.aload_n 0, 1) := by decide +kernel
theorem dX8_init_192 : decode cX8_init 192 = .ok (.getfield 7, 3) := by decide +kernel
theorem dX8_init_195 : decode cX8_init 195 = .ok (.iconst 2, 1) := by decide +kernel
theorem dX8_init_196 : decode cX8_init 196 = .ok (.bipush 10, 2) := by decide +kernel
theorem dX8_init_198 : decode cX8_init 198 = .ok (.iastore, 1) := by decide +kernel
theorem dX8_init_199 : decode cX8_init 199 = .ok (.aload_n 0, 1) := by decide +kernel
theorem dX8_init_200 : decode cX8_init 200 = .ok (.getfield 7, 3) := by decide +kernel
theorem dX8_init_203 : decode cX8_init 203 = .ok (.iconst 3, 1) := by decide +kernel
theorem dX8_init_204 : decode cX8_init 204 = .ok (.iconst 1, 1) := by decide +kernel
theorem dX8_init_205 : decode cX8_init 205 = .ok (.iastore, 1) := by decide +kernel
theorem dX8_init_206 : decode cX8_init 206 = .ok (.aload_n 0, 1) := by decide +kernel
theorem dX8_init_207 : decode cX8_init 207 = .ok (.getfield 13, 3) := by decide +kernel
theorem dX8_init_210 : decode cX8_init 210 = .ok (.iconst 1, 1) := by decide +kernel
theorem dX8_init_211 : decode cX8_init 211 = .ok (.bipush 20, 2) := by decide +kernel
theorem dX8_init_213 : decode cX8_init 213 = .ok (.iastore, 1) := by decide +kernel
theorem dX8_init_214 : decode cX8_init 214 = .ok (.aload_n 0, 1) := by decide +kernel
theorem dX8_init_215 : decode cX8_init 215 = .ok (.getfield 13, 3) := by decide +kernel
theorem dX8_init_218 : decode cX8_init 218 = .ok (.iconst 2, 1) := by decide +kernel
theorem dX8_init_219 : decode cX8_init 219 = .ok (.sipush 150, 3) := by decide +kernel
theorem dX8_init_222 : decode cX8_init 222 = .ok (.iastore, 1) := by decide +kernel
theorem dX8_init_223 : decode cX8_init 223 = .ok (.aload_n 0, 1) := by decide +kernel
theorem dX8_init_224 : decode cX8_init 224 = .ok (.getfield 13, 3) := by decide +kernel
theorem dX8_init_227 : decode cX8_init 227 = .ok (.iconst 3, 1) := by decide +kernel
theorem dX8_init_228 : decode cX8_init 228 = .ok (.sipush 600, 3) := by decide +kernel
theorem dX8_init_231 : decode cX8_init 231 = .ok (.iastore, 1) := by decide +kernel
theorem dX8_init_232 : decode cX8_init 232 = .ok (.aload_n 0, 1) := by decide +kernel
theorem dX8_init_233 : decode cX8_init 233 = .ok (.getfield 16, 3) := by decide +kernel
theorem dX8_init_236 : decode cX8_init 236 = .ok (.iconst 1, 1) := by decide +kernel
theorem dX8_init_237 : decode cX8_init 237 = .ok (.iconst 1, 1) := by decide +kernel
theorem dX8_init_238 : decode cX8_init 238 = .ok (.iastore, 1) := by decide +kernel
theorem dX8_init_239 : decode cX8_init 239 = .ok (.aload_n 0, 1) := by decide +kernel
theorem dX8_init_240 : decode cX8_init 240 = .ok (.getfield 16, 3) := by decide +kernel
theorem dX8_init_243 : decode cX8_init 243 = .ok (.iconst 2, 1) := by decide +kernel
theorem dX8_init_244 : decode cX8_init 244 = .ok (.iconst 3, 1) := by decide +kernel
theorem dX8_init_245 : decode cX8_init 245 = .ok (.iastore, 1) := by decide +kernel
theorem dX8_init_246 : decode cX8_init 246 = .ok (.aload_n 0, 1) := by decide +kernel
theorem dX8_init_247 : decode cX8_init 247 = .ok (.getfield 16, 3) := by decide +kernel
theorem dX8_init_250 : decode cX8_init 250 = .ok (.iconst 3, 1) := by decide +kernel
theorem dX8_init_251 : decode cX8_init 251 = .ok (.bipush 8, 2) := by decide +kernel
theorem dX8_init_253 : decode cX8_init 253 = .ok (.iastore, 1) := by decide +kernel
theorem dX8_init_254 : decode cX8_init 254 = .ok (.iconst 0, 1) := by decide +kernel
theorem dX8_init_255 : decode cX8_init 255 = .ok (.istore_n 1, 1) := by decide +kernel
theorem dX8_init_256 : decode cX8_init 256 = .ok (.iload_n 1, 1) := by decide +kernel
theorem dX8_init_257 : decode cX8_init 257 = .ok (.bipush 6, 2) := by decide +kernel
theorem dX8_init_259 : decode cX8_init 259 = .ok (.if_icmp .ge 16, 3) := by decide +kernel
theorem dX8_init_262 : decode cX8_init 262 = .ok (.aload_n 0, 1) := by decide +kernel
theorem dX8_init_263 : decode cX8_init 263 = .ok (.getfield 19, 3) := by decide +kernel
theorem dX8_init_266 : decode cX8_init 266 = .ok (.iload_n 1, 1) := by decide +kernel
theorem dX8_init_267 : decode cX8_init 267 = .ok (.iconst 3, 1) := by decide +kernel
theorem dX8_init_268 : decode cX8_init 268 = .ok (.iastore, 1) := by decide +kernel
theorem dX8_init_269 : decode cX8_init 269 = .ok (.iinc 1 1, 3) := by decide +kernel
theorem dX8_init_272 : decode cX8_init 272 = .ok (.goto (-16), 3) := by decide +kernel
theorem dX8_init_275 : decode cX8_init 275 = .ok (.return_, 1) := by decide +kernel
theorem dX8_thrown_0 : decode cX8_thrown 0 = .ok (.aload_n 0, 1) := by decide +kernel
theorem dX8_thrown_1 : decode cX8_thrown 1 = .ok (.getfield 84, 3) := by decide +kernel
theorem dX8_thrown_4 : decode cX8_thrown 4 = .ok (.ireturn, 1) := by decide +kernel
theorem dX8_fails_0 : decode cX8_fails 0 = .ok (.aload_n 0, 1) := by decide +kernel
theorem dX8_fails_1 : decode cX8_fails 1 = .ok (.iload_n 1, 1) := by decide +kernel
theorem dX8_fails_2 : decode cX8_fails 2 = .ok (.putfield 84, 3) := by decide +kernel
theorem dX8_fails_5 : decode cX8_fails 5 = .ok (.iconst 0, 1) := by decide +kernel
theorem dX8_fails_6 : decode cX8_fails 6 = .ok (.ireturn, 1) := by decide +kernel
theorem dX8_asks_0 : decode cX8_asks 0 = .ok (.aload_n 0, 1) := by decide +kernel
theorem dX8_asks_1 : decode cX8_asks 1 = .ok (.iload_n 1, 1) := by decide +kernel
theorem dX8_asks_2 : decode cX8_asks 2 = .ok (.ifCond .eq 7, 3) := by decide +kernel
theorem dX8_asks_5 : decode cX8_asks 5 = .ok (.iconst 0, 1) := by decide +kernel
theorem dX8_asks_6 : decode cX8_asks 6 = .ok (.goto 4, 3) := by decide +kernel
theorem dX8_asks_9 : decode cX8_asks 9 = .ok (.iconst 1, 1) := by decide +kernel
theorem dX8_asks_10 : decode cX8_asks 10 = .ok (.putfield 84, 3) := by decide +kernel
theorem dX8_asks_13 : decode cX8_asks 13 = .ok (.iload_n 1, 1) := by decide +kernel
theorem dX8_asks_14 : decode cX8_asks 14 = .ok (.ireturn, 1) := by decide +kernel
theorem dX8_in_0 : decode cX8_in 0 = .ok (.iload_n 0, 1) := by decide +kernel
theorem dX8_in_1 : decode cX8_in 1 = .ok (.iload_n 1, 1) := by decide +kernel
theorem dX8_in_2 : decode cX8_in 2 = .ok (.if_icmp .lt 12, 3) := by decide +kernel
theorem dX8_in_5 : decode cX8_in 5 = .ok (.iload_n 0, 1) := by decide +kernel
theorem dX8_in_6 : decode cX8_in 6 = .ok (.iload_n 2, 1) := by decide +kernel
theorem dX8_in_7 : decode cX8_in 7 = .ok (.if_icmp .gt 7, 3) := by decide +kernel
theorem dX8_in_10 : decode cX8_in 10 = .ok (.iconst 1, 1) := by decide +kernel
theorem dX8_in_11 : decode cX8_in 11 = .ok (.goto 4, 3) := by decide +kernel
theorem dX8_in_14 : decode cX8_in 14 = .ok (.iconst 0, 1) := by decide +kernel
theorem dX8_in_15 : decode cX8_in 15 = .ok (.ireturn, 1) := by decide +kernel
theorem dX8_spends_0 : decode cX8_spends 0 = .ok (.aload_n 0, 1) := by decide +kernel
theorem dX8_spends_1 : decode cX8_spends 1 = .ok (.dup, 1) := by decide +kernel
theorem dX8_spends_2 : decode cX8_spends 2 = .ok (.getfield 87, 3) := by decide +kernel
theorem dX8_spends_5 : decode cX8_spends 5 = .ok (.lload_n 1, 1) := by decide +kernel
theorem dX8_spends_6 : decode cX8_spends 6 = .ok (.ladd, 1) := by decide +kernel
theorem dX8_spends_7 : decode cX8_spends 7 = .ok (.putfield 87, 3) := by decide +kernel
theorem dX8_spends_10 : decode cX8_spends 10 = .ok (.aload_n 0, 1) := by decide +kernel
theorem dX8_spends_11 : decode cX8_spends 11 = .ok (.dup, 1) := by decide +kernel
theorem dX8_spends_12 : decode cX8_spends 12 = .ok (.getfield 91, 3) := by decide +kernel
theorem dX8_spends_15 : decode cX8_spends 15 = .ok (.lload_n 1, 1) := by decide +kernel
theorem dX8_spends_16 : decode cX8_spends 16 = .ok (.ladd, 1) := by decide +kernel
theorem dX8_spends_17 : decode cX8_spends 17 = .ok (.putfield 91, 3) := by decide +kernel
theorem dX8_spends_20 : decode cX8_spends 20 = .ok (.return_, 1) := by decide +kernel
theorem dX8_wakes_0 : decode cX8_wakes 0 = .ok (.aload_n 0, 1) := by decide +kernel
theorem dX8_wakes_1 : decode cX8_wakes 1 = .ok (.getfield 60, 3) := by decide +kernel
theorem dX8_wakes_4 : decode cX8_wakes 4 = .ok (.aload_n 0, 1) := by decide +kernel
theorem dX8_wakes_5 : decode cX8_wakes 5 = .ok (.getfield 94, 3) := by decide +kernel
theorem dX8_wakes_8 : decode cX8_wakes 8 = .ok (.iconst 4, 1) := by decide +kernel
theorem dX8_wakes_9 : decode cX8_wakes 9 = .ok (.irem, 1) := by decide +kernel
theorem dX8_wakes_10 : decode cX8_wakes 10 = .ok (.aload_n 0, 1) := by decide +kernel
theorem dX8_wakes_11 : decode cX8_wakes 11 = .ok (.getfield 97, 3) := by decide +kernel
theorem dX8_wakes_14 : decode cX8_wakes 14 = .ok (.aload_n 0, 1) := by decide +kernel
theorem dX8_wakes_15 : decode cX8_wakes 15 = .ok (.getfield 100, 3) := by decide +kernel
theorem dX8_wakes_18 : decode cX8_wakes 18 = .ok (.isub, 1) := by decide +kernel
theorem dX8_wakes_19 : decode cX8_wakes 19 = .ok (.iastore, 1) := by decide +kernel
theorem dX8_wakes_20 : decode cX8_wakes 20 = .ok (.aload_n 0, 1) := by decide +kernel
theorem dX8_wakes_21 : decode cX8_wakes 21 = .ok (.dup, 1) := by decide +kernel
theorem dX8_wakes_22 : decode cX8_wakes 22 = .ok (.getfield 94, 3) := by decide +kernel
theorem dX8_wakes_25 : decode cX8_wakes 25 = .ok (.iconst 1, 1) := by decide +kernel
theorem dX8_wakes_26 : decode cX8_wakes 26 = .ok (.iadd, 1) := by decide +kernel
theorem dX8_wakes_27 : decode cX8_wakes 27 = .ok (.putfield 94, 3) := by decide +kernel
theorem dX8_wakes_30 : decode cX8_wakes 30 = .ok (.aload_n 0, 1) := by decide +kernel
theorem dX8_wakes_31 : decode cX8_wakes 31 = .ok (.iconst 0, 1) := by decide +kernel
theorem dX8_wakes_32 : decode cX8_wakes 32 = .ok (.putfield 103, 3) := by decide +kernel
theorem dX8_wakes_35 : decode cX8_wakes 35 = .ok (.return_, 1) := by decide +kernel
theorem dX8_stirs_0 : decode cX8_stirs 0 = .ok (.aload_n 0, 1) := by decide +kernel
theorem dX8_stirs_1 : decode cX8_stirs 1 = .ok (.getfield 103, 3) := by decide +kernel
theorem dX8_stirs_4 : decode cX8_stirs 4 = .ok (.ifCond .le 28, 3) := by decide +kernel
theorem dX8_stirs_7 : decode cX8_stirs 7 = .ok (.aload_n 0, 1) := by decide +kernel
theorem dX8_stirs_8 : decode cX8_stirs 8 = .ok (.aload_n 0, 1) := by decide +kernel
theorem dX8_stirs_9 : decode cX8_stirs 9 = .ok (.getfield 7, 3) := by decide +kernel
theorem dX8_stirs_12 : decode cX8_stirs 12 = .ok (.iconst 0, 1) := by decide +kernel
theorem dX8_stirs_13 : decode cX8_stirs 13 = .ok (.iaload, 1) := by decide +kernel
theorem dX8_stirs_14 : decode cX8_stirs 14 = .ok (.aload_n 0, 1) := by decide +kernel
theorem dX8_stirs_15 : decode cX8_stirs 15 = .ok (.getfield 16, 3) := by decide +kernel
theorem dX8_stirs_18 : decode cX8_stirs 18 = .ok (.aload_n 0, 1) := by decide +kernel
theorem dX8_stirs_19 : decode cX8_stirs 19 = .ok (.getfield 103, 3) := by decide +kernel
theorem dX8_stirs_22 : decode cX8_stirs 22 = .ok (.iaload, 1) := by decide +kernel
theorem dX8_stirs_23 : decode cX8_stirs 23 = .ok (.imul, 1) := by decide +kernel
theorem dX8_stirs_24 : decode cX8_stirs 24 = .ok (.i2l, 1) := by decide +kernel
theorem dX8_stirs_25 : decode cX8_stirs 25 = .ok (.invokevirtual 106, 3) := by decide +kernel
theorem dX8_stirs_28 : decode cX8_stirs 28 = .ok (.aload_n 0, 1) := by decide +kernel
theorem dX8_stirs_29 : decode cX8_stirs 29 = .ok (.invokevirtual 110, 3) := by decide +kernel
theorem dX8_stirs_32 : decode cX8_stirs 32 = .ok (.return_, 1) := by decide +kernel
theorem dX8_setState_0 : decode cX8_setState 0 = .ok (.aload_n 0, 1) := by decide +kernel
theorem dX8_setState_1 : decode cX8_setState 1 = .ok (.iload_n 1, 1) := by decide +kernel
theorem dX8_setState_2 : decode cX8_setState 2 = .ok (.iconst 1, 1) := by decide +kernel
theorem dX8_setState_3 : decode cX8_setState 3 = .ok (.iconst 3, 1) := by decide +kernel
theorem dX8_setState_4 : decode cX8_setState 4 = .ok (.invokestatic 113, 3) := by decide +kernel
theorem dX8_setState_7 : decode cX8_setState 7 = .ok (.ifCond .eq 40, 3) := by decide +kernel
theorem dX8_setState_10 : decode cX8_setState 10 = .ok (.iload_n 2, 1) := by decide +kernel
theorem dX8_setState_11 : decode cX8_setState 11 = .ok (.iconst 0, 1) := by decide +kernel
theorem dX8_setState_12 : decode cX8_setState 12 = .ok (.sipush 1000, 3) := by decide +kernel
theorem dX8_setState_15 : decode cX8_setState 15 = .ok (.invokestatic 113, 3) := by decide +kernel
theorem dX8_setState_18 : decode cX8_setState 18 = .ok (.ifCond .eq 29, 3) := by decide +kernel
theorem dX8_setState_21 : decode cX8_setState 21 = .ok (.iload_n 3, 1) := by decide +kernel
theorem dX8_setState_22 : decode cX8_setState 22 = .ok (.iconst 0, 1) := by decide +kernel
theorem dX8_setState_23 : decode cX8_setState 23 = .ok (.sipush 10000, 3) := by decide +kernel
theorem dX8_setState_26 : decode cX8_setState 26 = .ok (.invokestatic 113, 3) := by decide +kernel
theorem dX8_setState_29 : decode cX8_setState 29 = .ok (.ifCond .eq 18, 3) := by decide +kernel
theorem dX8_setState_32 : decode cX8_setState 32 = .ok (.iload 4, 2) := by decide +kernel
theorem dX8_setState_34 : decode cX8_setState 34 = .ok (.iconst 0, 1) := by decide +kernel
theorem dX8_setState_35 : decode cX8_setState 35 = .ok (.bipush 100, 2) := by decide +kernel
theorem dX8_setState_37 : decode cX8_setState 37 = .ok (.invokestatic 113, 3) := by decide +kernel
theorem dX8_setState_40 : decode cX8_setState 40 = .ok (.ifCond .eq 7, 3) := by decide +kernel
theorem dX8_setState_43 : decode cX8_setState 43 = .ok (.iconst 1, 1) := by decide +kernel
theorem dX8_setState_44 : decode cX8_setState 44 = .ok (.goto 4, 3) := by decide +kernel
theorem dX8_setState_47 : decode cX8_setState 47 = .ok (.iconst 0, 1) := by decide +kernel
theorem dX8_setState_48 : decode cX8_setState 48 = .ok (.invokevirtual 117, 3) := by decide +kernel
theorem dX8_setState_51 : decode cX8_setState 51 = .ok (.ifCond .ne 4, 3) := by decide +kernel
theorem dX8_setState_54 : decode cX8_setState 54 = .ok (.return_, 1) := by decide +kernel
theorem dX8_setState_55 : decode cX8_setState 55 = .ok (.aload_n 0, 1) := by decide +kernel
theorem dX8_setState_56 : decode cX8_setState 56 = .ok (.invokevirtual 121, 3) := by decide +kernel
theorem dX8_setState_59 : decode cX8_setState 59 = .ok (.aload_n 0, 1) := by decide +kernel
theorem dX8_setState_60 : decode cX8_setState 60 = .ok (.getfield 7, 3) := by decide +kernel
theorem dX8_setState_63 : decode cX8_setState 63 = .ok (.iload_n 1, 1) := by decide +kernel
theorem dX8_setState_64 : decode cX8_setState 64 = .ok (.iload_n 2, 1) := by decide +kernel
theorem dX8_setState_65 : decode cX8_setState 65 = .ok (.iastore, 1) := by decide +kernel
theorem dX8_setState_66 : decode cX8_setState 66 = .ok (.aload_n 0, 1) := by decide +kernel
theorem dX8_setState_67 : decode cX8_setState 67 = .ok (.getfield 13, 3) := by decide +kernel
theorem dX8_setState_70 : decode cX8_setState 70 = .ok (.iload_n 1, 1) := by decide +kernel
theorem dX8_setState_71 : decode cX8_setState 71 = .ok (.iload_n 3, 1) := by decide +kernel
theorem dX8_setState_72 : decode cX8_setState 72 = .ok (.iastore, 1) := by decide +kernel
theorem dX8_setState_73 : decode cX8_setState 73 = .ok (.aload_n 0, 1) := by decide +kernel
theorem dX8_setState_74 : decode cX8_setState 74 = .ok (.getfield 16, 3) := by decide +kernel
theorem dX8_setState_77 : decode cX8_setState 77 = .ok (.iload_n 1, 1) := by decide +kernel
theorem dX8_setState_78 : decode cX8_setState 78 = .ok (.iload 4, 2) := by decide +kernel
theorem dX8_setState_80 : decode cX8_setState 80 = .ok (.iastore, 1) := by decide +kernel
theorem dX8_setState_81 : decode cX8_setState 81 = .ok (.return_, 1) := by decide +kernel
theorem dX8_setAwake_0 : decode cX8_setAwake 0 = .ok (.aload_n 0, 1) := by decide +kernel
theorem dX8_setAwake_1 : decode cX8_setAwake 1 = .ok (.iload_n 1, 1) := by decide +kernel
theorem dX8_setAwake_2 : decode cX8_setAwake 2 = .ok (.iconst 0, 1) := by decide +kernel
theorem dX8_setAwake_3 : decode cX8_setAwake 3 = .ok (.sipush 1000, 3) := by decide +kernel
theorem dX8_setAwake_6 : decode cX8_setAwake 6 = .ok (.invokestatic 113, 3) := by decide +kernel
theorem dX8_setAwake_9 : decode cX8_setAwake 9 = .ok (.invokevirtual 117, 3) := by decide +kernel
theorem dX8_setAwake_12 : decode cX8_setAwake 12 = .ok (.ifCond .ne 5, 3) := by decide +kernel
theorem dX8_setAwake_15 : decode cX8_setAwake 15 = .ok (.iconst 0, 1) := by decide +kernel
theorem dX8_setAwake_16 : decode cX8_setAwake 16 = .ok (.ireturn, 1) := by decide +kernel
theorem dX8_setAwake_17 : decode cX8_setAwake 17 = .ok (.aload_n 0, 1) := by decide +kernel
theorem dX8_setAwake_18 : decode cX8_setAwake 18 = .ok (.invokevirtual 121, 3) := by decide +kernel
theorem dX8_setAwake_21 : decode cX8_setAwake 21 = .ok (.aload_n 0, 1) := by decide +kernel
theorem dX8_setAwake_22 : decode cX8_setAwake 22 = .ok (.getfield 7, 3) := by decide +kernel
theorem dX8_setAwake_25 : decode cX8_setAwake 25 = .ok (.iconst 0, 1) := by decide +kernel
theorem dX8_setAwake_26 : decode cX8_setAwake 26 = .ok (.iaload, 1) := by decide +kernel
theorem dX8_setAwake_27 : decode cX8_setAwake 27 = .ok (.istore_n 2, 1) := by decide +kernel
theorem dX8_setAwake_28 : decode cX8_setAwake 28 = .ok (.aload_n 0, 1) := by decide +kernel
theorem dX8_setAwake_29 : decode cX8_setAwake 29 = .ok (.getfield 7, 3) := by decide +kernel
theorem dX8_setAwake_32 : decode cX8_setAwake 32 = .ok (.iconst 0, 1) := by decide +kernel
theorem dX8_setAwake_33 : decode cX8_setAwake 33 = .ok (.iload_n 1, 1) := by decide +kernel
theorem dX8_setAwake_34 : decode cX8_setAwake 34 = .ok (.iastore, 1) := by decide +kernel
theorem dX8_setAwake_35 : decode cX8_setAwake 35 = .ok (.iload_n 2, 1) := by decide +kernel
theorem dX8_setAwake_36 : decode cX8_setAwake 36 = .ok (.ireturn, 1) := by decide +kernel
theorem dX8_vote_0 : decode cX8_vote 0 = .ok (.aload_n 0, 1) := by decide +kernel
theorem dX8_vote_1 : decode cX8_vote 1 = .ok (.iload_n 1, 1) := by decide +kernel
theorem dX8_vote_2 : decode cX8_vote 2 = .ok (.iconst 0, 1) := by decide +kernel
theorem dX8_vote_3 : decode cX8_vote 3 = .ok (.iconst 5, 1) := by decide +kernel
theorem dX8_vote_4 : decode cX8_vote 4 = .ok (.invokestatic 113, 3) := by decide +kernel
theorem dX8_vote_7 : decode cX8_vote 7 = .ok (.ifCond .eq 16, 3) := by decide +kernel
theorem dX8_vote_10 : decode cX8_vote 10 = .ok (.iload_n 2, 1) := by decide +kernel
theorem dX8_vote_11 : decode cX8_vote 11 = .ok (.iconst 0, 1) := by decide +kernel
theorem dX8_vote_12 : decode cX8_vote 12 = .ok (.iconst 3, 1) := by decide +kernel
theorem dX8_vote_13 : decode cX8_vote 13 = .ok (.invokestatic 113, 3) := by decide +kernel
theorem dX8_vote_16 : decode cX8_vote 16 = .ok (.ifCond .eq 7, 3) := by decide +kernel
theorem dX8_vote_19 : decode cX8_vote 19 = .ok (.iconst 1, 1) := by decide +kernel
theorem dX8_vote_20 : decode cX8_vote 20 = .ok (.goto 4, 3) := by decide +kernel
theorem dX8_vote_23 : decode cX8_vote 23 = .ok (.iconst 0, 1) := by decide +kernel
theorem dX8_vote_24 : decode cX8_vote 24 = .ok (.invokevirtual 117, 3) := by decide +kernel
theorem dX8_vote_27 : decode cX8_vote 27 = .ok (.ifCond .ne 5, 3) := by decide +kernel
theorem dX8_vote_30 : decode cX8_vote 30 = .ok (.iconst 0, 1) := by decide +kernel
theorem dX8_vote_31 : decode cX8_vote 31 = .ok (.ireturn, 1) := by decide +kernel
theorem dX8_vote_32 : decode cX8_vote 32 = .ok (.aload_n 0, 1) := by decide +kernel
theorem dX8_vote_33 : decode cX8_vote 33 = .ok (.invokevirtual 121, 3) := by decide +kernel
theorem dX8_vote_36 : decode cX8_vote 36 = .ok (.aload_n 0, 1) := by decide +kernel
theorem dX8_vote_37 : decode cX8_vote 37 = .ok (.getfield 19, 3) := by decide +kernel
theorem dX8_vote_40 : decode cX8_vote 40 = .ok (.iload_n 1, 1) := by decide +kernel
theorem dX8_vote_41 : decode cX8_vote 41 = .ok (.iaload, 1) := by decide +kernel
theorem dX8_vote_42 : decode cX8_vote 42 = .ok (.istore_n 3, 1) := by decide +kernel
theorem dX8_vote_43 : decode cX8_vote 43 = .ok (.aload_n 0, 1) := by decide +kernel
theorem dX8_vote_44 : decode cX8_vote 44 = .ok (.getfield 19, 3) := by decide +kernel
theorem dX8_vote_47 : decode cX8_vote 47 = .ok (.iload_n 1, 1) := by decide +kernel
theorem dX8_vote_48 : decode cX8_vote 48 = .ok (.iload_n 2, 1) := by decide +kernel
theorem dX8_vote_49 : decode cX8_vote 49 = .ok (.iastore, 1) := by decide +kernel
theorem dX8_vote_50 : decode cX8_vote 50 = .ok (.iload_n 3, 1) := by decide +kernel
theorem dX8_vote_51 : decode cX8_vote 51 = .ok (.ireturn, 1) := by decide +kernel
theorem dX8_isClock_0 : decode cX8_isClock 0 = .ok (.iload_n 1, 1) := by decide +kernel
theorem dX8_isClock_1 : decode cX8_isClock 1 = .ok (.ifCond .lt 15, 3) := by decide +kernel
theorem dX8_isClock_4 : decode cX8_isClock 4 = .ok (.iload_n 1, 1) := by decide +kernel
theorem dX8_isClock_5 : decode cX8_isClock 5 = .ok (.aload_n 0, 1) := by decide +kernel
theorem dX8_isClock_6 : decode cX8_isClock 6 = .ok (.getfield 22, 3) := by decide +kernel
theorem dX8_isClock_9 : decode cX8_isClock 9 = .ok (.if_icmp .ge 7, 3) := by decide +kernel
theorem dX8_isClock_12 : decode cX8_isClock 12 = .ok (.iconst 1, 1) := by decide +kernel
theorem dX8_isClock_13 : decode cX8_isClock 13 = .ok (.goto 4, 3) := by decide +kernel
theorem dX8_isClock_16 : decode cX8_isClock 16 = .ok (.iconst 0, 1) := by decide +kernel
theorem dX8_isClock_17 : decode cX8_isClock 17 = .ok (.ireturn, 1) := by decide +kernel
theorem dX8_addClock_0 : decode cX8_addClock 0 = .ok (.aload_n 0, 1) := by decide +kernel
theorem dX8_addClock_1 : decode cX8_addClock 1 = .ok (.aload_n 0, 1) := by decide +kernel
theorem dX8_addClock_2 : decode cX8_addClock 2 = .ok (.iload_n 1, 1) := by decide +kernel
theorem dX8_addClock_3 : decode cX8_addClock 3 = .ok (.invokevirtual 124, 3) := by decide +kernel
theorem dX8_addClock_6 : decode cX8_addClock 6 = .ok (.invokevirtual 117, 3) := by decide +kernel
theorem dX8_addClock_9 : decode cX8_addClock 9 = .ok (.ifCond .ne 5, 3) := by decide +kernel
theorem dX8_addClock_12 : decode cX8_addClock 12 = .ok (.iconst 0, 1) := by decide +kernel
theorem dX8_addClock_13 : decode cX8_addClock 13 = .ok (.ireturn, 1) := by decide +kernel
theorem dX8_addClock_14 : decode cX8_addClock 14 = .ok (.iload_n 2, 1) := by decide +kernel
theorem dX8_addClock_15 : decode cX8_addClock 15 = .ok (.iconst 1, 1) := by decide +kernel
theorem dX8_addClock_16 : decode cX8_addClock 16 = .ok (.bipush 64, 2) := by decide +kernel
theorem dX8_addClock_18 : decode cX8_addClock 18 = .ok (.invokestatic 113, 3) := by decide +kernel
theorem dX8_addClock_21 : decode cX8_addClock 21 = .ok (.ifCond .eq 12, 3) := by decide +kernel
theorem dX8_addClock_24 : decode cX8_addClock 24 = .ok (.iload_n 3, 1) := by decide +kernel
theorem dX8_addClock_25 : decode cX8_addClock 25 = .ok (.iconst 0, 1) := by decide +kernel
theorem dX8_addClock_26 : decode cX8_addClock 26 = .ok (.iconst 3, 1) := by decide +kernel
theorem dX8_addClock_27 : decode cX8_addClock 27 = .ok (.invokestatic 113, 3) := by decide +kernel
theorem dX8_addClock_30 : decode cX8_addClock 30 = .ok (.ifCond .ne 9, 3) := by decide +kernel
theorem dX8_addClock_33 : decode cX8_addClock 33 = .ok (.aload_n 0, 1) := by decide +kernel
theorem dX8_addClock_34 : decode cX8_addClock 34 = .ok (.iconst 2, 1) := by decide +kernel
theorem dX8_addClock_35 : decode cX8_addClock 35 = .ok (.invokevirtual 128, 3) := by decide +kernel
theorem dX8_addClock_38 : decode cX8_addClock 38 = .ok (.ireturn, 1) := by decide +kernel
theorem dX8_addClock_39 : decode cX8_addClock 39 = .ok (.aload_n 0, 1) := by decide +kernel
theorem dX8_addClock_40 : decode cX8_addClock 40 = .ok (.getfield 22, 3) := by decide +kernel
theorem dX8_addClock_43 : decode cX8_addClock 43 = .ok (.bipush 8, 2) := by decide +kernel
theorem dX8_addClock_45 : decode cX8_addClock 45 = .ok (.if_icmp .ne 9, 3) := by decide +kernel
theorem dX8_addClock_48 : decode cX8_addClock 48 = .ok (.aload_n 0, 1) := by decide +kernel
theorem dX8_addClock_49 : decode cX8_addClock 49 = .ok (.iconst 3, 1) := by decide +kernel
theorem dX8_addClock_50 : decode cX8_addClock 50 = .ok (.invokevirtual 128, 3) := by decide +kernel
theorem dX8_addClock_53 : decode cX8_addClock 53 = .ok (.ireturn, 1) := by decide +kernel
theorem dX8_addClock_54 : decode cX8_addClock 54 = .ok (.aload_n 0, 1) := by decide +kernel
theorem dX8_addClock_55 : decode cX8_addClock 55 = .ok (.invokevirtual 121, 3) := by decide +kernel
theorem dX8_addClock_58 : decode cX8_addClock 58 = .ok (.aload_n 0, 1) := by decide +kernel
theorem dX8_addClock_59 : decode cX8_addClock 59 = .ok (.getfield 26, 3) := by decide +kernel
theorem dX8_addClock_62 : decode cX8_addClock 62 = .ok (.aload_n 0, 1) := by decide +kernel
theorem dX8_addClock_63 : decode cX8_addClock 63 = .ok (.getfield 22, 3) := by decide +kernel
theorem dX8_addClock_66 : decode cX8_addClock 66 = .ok (.iload_n 1, 1) := by decide +kernel
theorem dX8_addClock_67 : decode cX8_addClock 67 = .ok (.iastore, 1) := by decide +kernel
theorem dX8_addClock_68 : decode cX8_addClock 68 = .ok (.aload_n 0, 1) := by decide +kernel
theorem dX8_addClock_69 : decode cX8_addClock 69 = .ok (.getfield 29, 3) := by decide +kernel
theorem dX8_addClock_72 : decode cX8_addClock 72 = .ok (.aload_n 0, 1) := by decide +kernel
theorem dX8_addClock_73 : decode cX8_addClock 73 = .ok (.getfield 22, 3) := by decide +kernel
theorem dX8_addClock_76 : decode cX8_addClock 76 = .ok (.iload_n 2, 1) := by decide +kernel
theorem dX8_addClock_77 : decode cX8_addClock 77 = .ok (.iastore, 1) := by decide +kernel
theorem dX8_addClock_78 : decode cX8_addClock 78 = .ok (.aload_n 0, 1) := by decide +kernel
theorem dX8_addClock_79 : decode cX8_addClock 79 = .ok (.getfield 32, 3) := by decide +kernel
theorem dX8_addClock_82 : decode cX8_addClock 82 = .ok (.aload_n 0, 1) := by decide +kernel
theorem dX8_addClock_83 : decode cX8_addClock 83 = .ok (.getfield 22, 3) := by decide +kernel
theorem dX8_addClock_86 : decode cX8_addClock 86 = .ok (.iload_n 3, 1) := by decide +kernel
theorem dX8_addClock_87 : decode cX8_addClock 87 = .ok (.iastore, 1) := by decide +kernel
theorem dX8_addClock_88 : decode cX8_addClock 88 = .ok (.aload_n 0, 1) := by decide +kernel
theorem dX8_addClock_89 : decode cX8_addClock 89 = .ok (.dup, 1) := by decide +kernel
theorem dX8_addClock_90 : decode cX8_addClock 90 = .ok (.getfield 22, 3) := by decide +kernel
theorem dX8_addClock_93 : decode cX8_addClock 93 = .ok (.iconst 1, 1) := by decide +kernel
theorem dX8_addClock_94 : decode cX8_addClock 94 = .ok (.iadd, 1) := by decide +kernel
theorem dX8_addClock_95 : decode cX8_addClock 95 = .ok (.putfield 22, 3) := by decide +kernel
theorem dX8_addClock_98 : decode cX8_addClock 98 = .ok (.aload_n 0, 1) := by decide +kernel
theorem dX8_addClock_99 : decode cX8_addClock 99 = .ok (.getfield 22, 3) := by decide +kernel
theorem dX8_addClock_102 : decode cX8_addClock 102 = .ok (.iconst 1, 1) := by decide +kernel
theorem dX8_addClock_103 : decode cX8_addClock 103 = .ok (.isub, 1) := by decide +kernel
theorem dX8_addClock_104 : decode cX8_addClock 104 = .ok (.ireturn, 1) := by decide +kernel
theorem dX8_use_0 : decode cX8_use 0 = .ok (.aload_n 0, 1) := by decide +kernel
theorem dX8_use_1 : decode cX8_use 1 = .ok (.aload_n 0, 1) := by decide +kernel
theorem dX8_use_2 : decode cX8_use 2 = .ok (.iload_n 1, 1) := by decide +kernel
theorem dX8_use_3 : decode cX8_use 3 = .ok (.invokevirtual 124, 3) := by decide +kernel
theorem dX8_use_6 : decode cX8_use 6 = .ok (.invokevirtual 117, 3) := by decide +kernel
theorem dX8_use_9 : decode cX8_use 9 = .ok (.ifCond .ne 5, 3) := by decide +kernel
theorem dX8_use_12 : decode cX8_use 12 = .ok (.iconst 0, 1) := by decide +kernel
theorem dX8_use_13 : decode cX8_use 13 = .ok (.ireturn, 1) := by decide +kernel
theorem dX8_use_14 : decode cX8_use 14 = .ok (.aload_n 0, 1) := by decide +kernel
theorem dX8_use_15 : decode cX8_use 15 = .ok (.getfield 35, 3) := by decide +kernel
theorem dX8_use_18 : decode cX8_use 18 = .ok (.iload_n 1, 1) := by decide +kernel
theorem dX8_use_19 : decode cX8_use 19 = .ok (.iaload, 1) := by decide +kernel
theorem dX8_use_20 : decode cX8_use 20 = .ok (.bipush 9, 2) := by decide +kernel
theorem dX8_use_22 : decode cX8_use 22 = .ok (.if_icmp .ne 9, 3) := by decide +kernel
theorem dX8_use_25 : decode cX8_use 25 = .ok (.aload_n 0, 1) := by decide +kernel
theorem dX8_use_26 : decode cX8_use 26 = .ok (.iconst 2, 1) := by decide +kernel
theorem dX8_use_27 : decode cX8_use 27 = .ok (.invokevirtual 128, 3) := by decide +kernel
theorem dX8_use_30 : decode cX8_use 30 = .ok (.ireturn, 1) := by decide +kernel
theorem dX8_use_31 : decode cX8_use 31 = .ok (.aload_n 0, 1) := by decide +kernel
theorem dX8_use_32 : decode cX8_use 32 = .ok (.invokevirtual 121, 3) := by decide +kernel
theorem dX8_use_35 : decode cX8_use 35 = .ok (.aload_n 0, 1) := by decide +kernel
theorem dX8_use_36 : decode cX8_use 36 = .ok (.getfield 35, 3) := by decide +kernel
theorem dX8_use_39 : decode cX8_use 39 = .ok (.iload_n 1, 1) := by decide +kernel
theorem dX8_use_40 : decode cX8_use 40 = .ok (.dup2, 1) := by decide +kernel
theorem dX8_use_41 : decode cX8_use 41 = .ok (.iaload, 1) := by decide +kernel
theorem dX8_use_42 : decode cX8_use 42 = .ok (.iconst 1, 1) := by decide +kernel
theorem dX8_use_43 : decode cX8_use 43 = .ok (.iadd, 1) := by decide +kernel
theorem dX8_use_44 : decode cX8_use 44 = .ok (.iastore, 1) := by decide +kernel
theorem dX8_use_45 : decode cX8_use 45 = .ok (.aload_n 0, 1) := by decide +kernel
theorem dX8_use_46 : decode cX8_use 46 = .ok (.getfield 35, 3) := by decide +kernel
theorem dX8_use_49 : decode cX8_use 49 = .ok (.iload_n 1, 1) := by decide +kernel
theorem dX8_use_50 : decode cX8_use 50 = .ok (.iaload, 1) := by decide +kernel
theorem dX8_use_51 : decode cX8_use 51 = .ok (.ireturn, 1) := by decide +kernel
theorem dX8_release_0 : decode cX8_release 0 = .ok (.aload_n 0, 1) := by decide +kernel
theorem dX8_release_1 : decode cX8_release 1 = .ok (.aload_n 0, 1) := by decide +kernel
theorem dX8_release_2 : decode cX8_release 2 = .ok (.iload_n 1, 1) := by decide +kernel
theorem dX8_release_3 : decode cX8_release 3 = .ok (.invokevirtual 124, 3) := by decide +kernel
theorem dX8_release_6 : decode cX8_release 6 = .ok (.invokevirtual 117, 3) := by decide +kernel
theorem dX8_release_9 : decode cX8_release 9 = .ok (.ifCond .ne 5, 3) := by decide +kernel
theorem dX8_release_12 : decode cX8_release 12 = .ok (.iconst 0, 1) := by decide +kernel
theorem dX8_release_13 : decode cX8_release 13 = .ok (.ireturn, 1) := by decide +kernel
theorem dX8_release_14 : decode cX8_release 14 = .ok (.aload_n 0, 1) := by decide +kernel
theorem dX8_release_15 : decode cX8_release 15 = .ok (.getfield 35, 3) := by decide +kernel
theorem dX8_release_18 : decode cX8_release 18 = .ok (.iload_n 1, 1) := by decide +kernel
theorem dX8_release_19 : decode cX8_release 19 = .ok (.iaload, 1) := by decide +kernel
theorem dX8_release_20 : decode cX8_release 20 = .ok (.ifCond .ne 9, 3) := by decide +kernel
theorem dX8_release_23 : decode cX8_release 23 = .ok (.aload_n 0, 1) := by decide +kernel
theorem dX8_release_24 : decode cX8_release 24 = .ok (.iconst 2, 1) := by decide +kernel
theorem dX8_release_25 : decode cX8_release 25 = .ok (.invokevirtual 128, 3) := by decide +kernel
theorem dX8_release_28 : decode cX8_release 28 = .ok (.ireturn, 1) := by decide +kernel
theorem dX8_release_29 : decode cX8_release 29 = .ok (.aload_n 0, 1) := by decide +kernel
theorem dX8_release_30 : decode cX8_release 30 = .ok (.invokevirtual 121, 3) := by decide +kernel
theorem dX8_release_33 : decode cX8_release 33 = .ok (.aload_n 0, 1) := by decide +kernel
theorem dX8_release_34 : decode cX8_release 34 = .ok (.getfield 35, 3) := by decide +kernel
theorem dX8_release_37 : decode cX8_release 37 = .ok (.iload_n 1, 1) := by decide +kernel
theorem dX8_release_38 : decode cX8_release 38 = .ok (.dup2, 1) := by decide +kernel
theorem dX8_release_39 : decode cX8_release 39 = .ok (.iaload, 1) := by decide +kernel
theorem dX8_release_40 : decode cX8_release 40 = .ok (.iconst 1, 1) := by decide +kernel
theorem dX8_release_41 : decode cX8_release 41 = .ok (.isub, 1) := by decide +kernel
theorem dX8_release_42 : decode cX8_release 42 = .ok (.iastore, 1) := by decide +kernel
theorem dX8_release_43 : decode cX8_release 43 = .ok (.aload_n 0, 1) := by decide +kernel
theorem dX8_release_44 : decode cX8_release 44 = .ok (.getfield 35, 3) := by decide +kernel
theorem dX8_release_47 : decode cX8_release 47 = .ok (.iload_n 1, 1) := by decide +kernel
theorem dX8_release_48 : decode cX8_release 48 = .ok (.iaload, 1) := by decide +kernel
theorem dX8_release_49 : decode cX8_release 49 = .ok (.ireturn, 1) := by decide +kernel
theorem dX8_findsRunning_0 : decode cX8_findsRunning 0 = .ok (.iconst 0, 1) := by decide +kernel
theorem dX8_findsRunning_1 : decode cX8_findsRunning 1 = .ok (.istore_n 1, 1) := by decide +kernel
theorem dX8_findsRunning_2 : decode cX8_findsRunning 2 = .ok (.iload_n 1, 1) := by decide +kernel
theorem dX8_findsRunning_3 : decode cX8_findsRunning 3 = .ok (.bipush 8, 2) := by decide +kernel
theorem dX8_findsRunning_5 : decode cX8_findsRunning 5 = .ok (.if_icmp .ge 29, 3) := by decide +kernel
theorem dX8_findsRunning_8 : decode cX8_findsRunning 8 = .ok (.aload_n 0, 1) := by decide +kernel
theorem dX8_findsRunning_9 : decode cX8_findsRunning 9 = .ok (.getfield 38, 3) := by decide +kernel
theorem dX8_findsRunning_12 : decode cX8_findsRunning 12 = .ok (.iload_n 1, 1) := by decide +kernel
theorem dX8_findsRunning_13 : decode cX8_findsRunning 13 = .ok (.aload_n 0, 1) := by decide +kernel
theorem dX8_findsRunning_14 : decode cX8_findsRunning 14 = .ok (.getfield 35, 3) := by decide +kernel
theorem dX8_findsRunning_17 : decode cX8_findsRunning 17 = .ok (.iload_n 1, 1) := by decide +kernel
theorem dX8_findsRunning_18 : decode cX8_findsRunning 18 = .ok (.iaload, 1) := by decide +kernel
theorem dX8_findsRunning_19 : decode cX8_findsRunning 19 = .ok (.ifCond .le 7, 3) := by decide +kernel
theorem dX8_findsRunning_22 : decode cX8_findsRunning 22 = .ok (.iconst 1, 1) := by decide +kernel
theorem dX8_findsRunning_23 : decode cX8_findsRunning 23 = .ok (.goto 4, 3) := by decide +kernel
theorem dX8_findsRunning_26 : decode cX8_findsRunning 26 = .ok (.iconst 0, 1) := by decide +kernel
theorem dX8_findsRunning_27 : decode cX8_findsRunning 27 = .ok (.bastore, 1) := by decide +kernel
theorem dX8_findsRunning_28 : decode cX8_findsRunning 28 = .ok (.iinc 1 1, 3) := by decide +kernel
theorem dX8_findsRunning_31 : decode cX8_findsRunning 31 = .ok (.goto (-29), 3) := by decide +kernel
theorem dX8_findsRunning_34 : decode cX8_findsRunning 34 = .ok (.aload_n 0, 1) := by decide +kernel
theorem dX8_findsRunning_35 : decode cX8_findsRunning 35 = .ok (.getfield 22, 3) := by decide +kernel
theorem dX8_findsRunning_38 : decode cX8_findsRunning 38 = .ok (.iconst 1, 1) := by decide +kernel
theorem dX8_findsRunning_39 : decode cX8_findsRunning 39 = .ok (.isub, 1) := by decide +kernel
theorem dX8_findsRunning_40 : decode cX8_findsRunning 40 = .ok (.istore_n 1, 1) := by decide +kernel
theorem dX8_findsRunning_41 : decode cX8_findsRunning 41 = .ok (.iload_n 1, 1) := by decide +kernel
theorem dX8_findsRunning_42 : decode cX8_findsRunning 42 = .ok (.ifCond .le 48, 3) := by decide +kernel
theorem dX8_findsRunning_45 : decode cX8_findsRunning 45 = .ok (.aload_n 0, 1) := by decide +kernel
theorem dX8_findsRunning_46 : decode cX8_findsRunning 46 = .ok (.getfield 38, 3) := by decide +kernel
theorem dX8_findsRunning_49 : decode cX8_findsRunning 49 = .ok (.aload_n 0, 1) := by decide +kernel
theorem dX8_findsRunning_50 : decode cX8_findsRunning 50 = .ok (.getfield 26, 3) := by decide +kernel
theorem dX8_findsRunning_53 : decode cX8_findsRunning 53 = .ok (.iload_n 1, 1) := by decide +kernel
theorem dX8_findsRunning_54 : decode cX8_findsRunning 54 = .ok (.iaload, 1) := by decide +kernel
theorem dX8_findsRunning_55 : decode cX8_findsRunning 55 = .ok (.aload_n 0, 1) := by decide +kernel
theorem dX8_findsRunning_56 : decode cX8_findsRunning 56 = .ok (.getfield 38, 3) := by decide +kernel
theorem dX8_findsRunning_59 : decode cX8_findsRunning 59 = .ok (.aload_n 0, 1) := by decide +kernel
theorem dX8_findsRunning_60 : decode cX8_findsRunning 60 = .ok (.getfield 26, 3) := by decide +kernel
theorem dX8_findsRunning_63 : decode cX8_findsRunning 63 = .ok (.iload_n 1, 1) := by decide +kernel
theorem dX8_findsRunning_64 : decode cX8_findsRunning 64 = .ok (.iaload, 1) := by decide +kernel
theorem dX8_findsRunning_65 : decode cX8_findsRunning 65 = .ok (.baload, 1) := by decide +kernel
theorem dX8_findsRunning_66 : decode cX8_findsRunning 66 = .ok (.ifCond .ne 12, 3) := by decide +kernel
theorem dX8_findsRunning_69 : decode cX8_findsRunning 69 = .ok (.aload_n 0, 1) := by decide +kernel
theorem dX8_findsRunning_70 : decode cX8_findsRunning 70 = .ok (.getfield 38, 3) := by decide +kernel
theorem dX8_findsRunning_73 : decode cX8_findsRunning 73 = .ok (.iload_n 1, 1) := by decide +kernel
theorem dX8_findsRunning_74 : decode cX8_findsRunning 74 = .ok (.baload, 1) := by decide +kernel
theorem dX8_findsRunning_75 : decode cX8_findsRunning 75 = .ok (.ifCond .eq 7, 3) := by decide +kernel
theorem dX8_findsRunning_78 : decode cX8_findsRunning 78 = .ok (.iconst 1, 1) := by decide +kernel
theorem dX8_findsRunning_79 : decode cX8_findsRunning 79 = .ok (.goto 4, 3) := by decide +kernel
theorem dX8_findsRunning_82 : decode cX8_findsRunning 82 = .ok (.iconst 0, 1) := by decide +kernel
theorem dX8_findsRunning_83 : decode cX8_findsRunning 83 = .ok (.bastore, 1) := by decide +kernel
theorem dX8_findsRunning_84 : decode cX8_findsRunning 84 = .ok (.iinc 1 (-1), 3) := by decide +kernel
theorem dX8_findsRunning_87 : decode cX8_findsRunning 87 = .ok (.goto (-46), 3) := by decide +kernel
theorem dX8_findsRunning_90 : decode cX8_findsRunning 90 = .ok (.return_, 1) := by decide +kernel
theorem dX8_runs_0 : decode cX8_runs 0 = .ok (.aload_n 0, 1) := by decide +kernel
theorem dX8_runs_1 : decode cX8_runs 1 = .ok (.aload_n 0, 1) := by decide +kernel
theorem dX8_runs_2 : decode cX8_runs 2 = .ok (.iload_n 1, 1) := by decide +kernel
theorem dX8_runs_3 : decode cX8_runs 3 = .ok (.invokevirtual 124, 3) := by decide +kernel
theorem dX8_runs_6 : decode cX8_runs 6 = .ok (.invokevirtual 117, 3) := by decide +kernel
theorem dX8_runs_9 : decode cX8_runs 9 = .ok (.ifCond .ne 5, 3) := by decide +kernel
theorem dX8_runs_12 : decode cX8_runs 12 = .ok (.iconst 0, 1) := by decide +kernel
theorem dX8_runs_13 : decode cX8_runs 13 = .ok (.ireturn, 1) := by decide +kernel
theorem dX8_runs_14 : decode cX8_runs 14 = .ok (.aload_n 0, 1) := by decide +kernel
theorem dX8_runs_15 : decode cX8_runs 15 = .ok (.invokevirtual 132, 3) := by decide +kernel
theorem dX8_runs_18 : decode cX8_runs 18 = .ok (.aload_n 0, 1) := by decide +kernel
theorem dX8_runs_19 : decode cX8_runs 19 = .ok (.getfield 38, 3) := by decide +kernel
theorem dX8_runs_22 : decode cX8_runs 22 = .ok (.iload_n 1, 1) := by decide +kernel
theorem dX8_runs_23 : decode cX8_runs 23 = .ok (.baload, 1) := by decide +kernel
theorem dX8_runs_24 : decode cX8_runs 24 = .ok (.ireturn, 1) := by decide +kernel
theorem dX8_frequency_0 : decode cX8_frequency 0 = .ok (.aload_n 0, 1) := by decide +kernel
theorem dX8_frequency_1 : decode cX8_frequency 1 = .ok (.aload_n 0, 1) := by decide +kernel
theorem dX8_frequency_2 : decode cX8_frequency 2 = .ok (.iload_n 1, 1) := by decide +kernel
theorem dX8_frequency_3 : decode cX8_frequency 3 = .ok (.invokevirtual 124, 3) := by decide +kernel
theorem dX8_frequency_6 : decode cX8_frequency 6 = .ok (.invokevirtual 117, 3) := by decide +kernel
theorem dX8_frequency_9 : decode cX8_frequency 9 = .ok (.ifCond .ne 5, 3) := by decide +kernel
theorem dX8_frequency_12 : decode cX8_frequency 12 = .ok (.iconst 0, 1) := by decide +kernel
theorem dX8_frequency_13 : decode cX8_frequency 13 = .ok (.ireturn, 1) := by decide +kernel
theorem dX8_frequency_14 : decode cX8_frequency 14 = .ok (.iconst 1, 1) := by decide +kernel
theorem dX8_frequency_15 : decode cX8_frequency 15 = .ok (.istore_n 2, 1) := by decide +kernel
theorem dX8_frequency_16 : decode cX8_frequency 16 = .ok (.iload_n 1, 1) := by decide +kernel
theorem dX8_frequency_17 : decode cX8_frequency 17 = .ok (.istore_n 3, 1) := by decide +kernel
theorem dX8_frequency_18 : decode cX8_frequency 18 = .ok (.iload_n 3, 1) := by decide +kernel
theorem dX8_frequency_19 : decode cX8_frequency 19 = .ok (.ifCond .le 37, 3) := by decide +kernel
theorem dX8_frequency_22 : decode cX8_frequency 22 = .ok (.iload_n 2, 1) := by decide +kernel
theorem dX8_frequency_23 : decode cX8_frequency 23 = .ok (.aload_n 0, 1) := by decide +kernel
theorem dX8_frequency_24 : decode cX8_frequency 24 = .ok (.getfield 29, 3) := by decide +kernel
theorem dX8_frequency_27 : decode cX8_frequency 27 = .ok (.iload_n 3, 1) := by decide +kernel
theorem dX8_frequency_28 : decode cX8_frequency 28 = .ok (.iaload, 1) := by decide +kernel
theorem dX8_frequency_29 : decode cX8_frequency 29 = .ok (.imul, 1) := by decide +kernel
theorem dX8_frequency_30 : decode cX8_frequency 30 = .ok (.istore_n 2, 1) := by decide +kernel
theorem dX8_frequency_31 : decode cX8_frequency 31 = .ok (.iload_n 2, 1) := by decide +kernel
theorem dX8_frequency_32 : decode cX8_frequency 32 = .ok (.sipush 4800, 3) := by decide +kernel
theorem dX8_frequency_35 : decode cX8_frequency 35 = .ok (.if_icmp .le 9, 3) := by decide +kernel
theorem dX8_frequency_38 : decode cX8_frequency 38 = .ok (.sipush 4801, 3) := by decide +kernel
theorem dX8_frequency_41 : decode cX8_frequency 41 = .ok (.goto 4, 3) := by decide +kernel
theorem dX8_frequency_44 : decode cX8_frequency 44 = .ok (.iload_n 2, 1) := by decide +kernel
theorem dX8_frequency_45 : decode cX8_frequency 45 = .ok (.istore_n 2, 1) := by decide +kernel
theorem dX8_frequency_46 : decode cX8_frequency 46 = .ok (.aload_n 0, 1) := by decide +kernel
theorem dX8_frequency_47 : decode cX8_frequency 47 = .ok (.getfield 26, 3) := by decide +kernel
theorem dX8_frequency_50 : decode cX8_frequency 50 = .ok (.iload_n 3, 1) := by decide +kernel
theorem dX8_frequency_51 : decode cX8_frequency 51 = .ok (.iaload, 1) := by decide +kernel
theorem dX8_frequency_52 : decode cX8_frequency 52 = .ok (.istore_n 3, 1) := by decide +kernel
theorem dX8_frequency_53 : decode cX8_frequency 53 = .ok (.goto (-35), 3) := by decide +kernel
theorem dX8_frequency_56 : decode cX8_frequency 56 = .ok (.sipush 4800, 3) := by decide +kernel
theorem dX8_frequency_59 : decode cX8_frequency 59 = .ok (.iload_n 2, 1) := by decide +kernel
theorem dX8_frequency_60 : decode cX8_frequency 60 = .ok (.idiv, 1) := by decide +kernel
theorem dX8_frequency_61 : decode cX8_frequency 61 = .ok (.ireturn, 1) := by decide +kernel
theorem dX8_deepestNow_0 : decode cX8_deepestNow 0 = .ok (.iconst 3, 1) := by decide +kernel
theorem dX8_deepestNow_1 : decode cX8_deepestNow 1 = .ok (.istore_n 1, 1) := by decide +kernel
theorem dX8_deepestNow_2 : decode cX8_deepestNow 2 = .ok (.iconst 0, 1) := by decide +kernel
theorem dX8_deepestNow_3 : decode cX8_deepestNow 3 = .ok (.istore_n 2, 1) := by decide +kernel
theorem dX8_deepestNow_4 : decode cX8_deepestNow 4 = .ok (.iload_n 2, 1) := by decide +kernel
theorem dX8_deepestNow_5 : decode cX8_deepestNow 5 = .ok (.bipush 6, 2) := by decide +kernel
theorem dX8_deepestNow_7 : decode cX8_deepestNow 7 = .ok (.if_icmp .ge 30, 3) := by decide +kernel
theorem dX8_deepestNow_10 : decode cX8_deepestNow 10 = .ok (.aload_n 0, 1) := by decide +kernel
theorem dX8_deepestNow_11 : decode cX8_deepestNow 11 = .ok (.getfield 19, 3) := by decide +kernel
theorem dX8_deepestNow_14 : decode cX8_deepestNow 14 = .ok (.iload_n 2, 1) := by decide +kernel
theorem dX8_deepestNow_15 : decode cX8_deepestNow 15 = .ok (.iaload, 1) := by decide +kernel
theorem dX8_deepestNow_16 : decode cX8_deepestNow 16 = .ok (.iload_n 1, 1) := by decide +kernel
theorem dX8_deepestNow_17 : decode cX8_deepestNow 17 = .ok (.if_icmp .ge 12, 3) := by decide +kernel
theorem dX8_deepestNow_20 : decode cX8_deepestNow 20 = .ok (.aload_n 0, 1) := by decide +kernel
theorem dX8_deepestNow_21 : decode cX8_deepestNow 21 = .ok (.getfield 19, 3) := by decide +kernel
theorem dX8_deepestNow_24 : decode cX8_deepestNow 24 = .ok (.iload_n 2, 1) := by decide +kernel
theorem dX8_deepestNow_25 : decode cX8_deepestNow 25 = .ok (.iaload, 1) := by decide +kernel
theorem dX8_deepestNow_26 : decode cX8_deepestNow 26 = .ok (.goto 4, 3) := by decide +kernel
theorem dX8_deepestNow_29 : decode cX8_deepestNow 29 = .ok (.iload_n 1, 1) := by decide +kernel
theorem dX8_deepestNow_30 : decode cX8_deepestNow 30 = .ok (.istore_n 1, 1) := by decide +kernel
theorem dX8_deepestNow_31 : decode cX8_deepestNow 31 = .ok (.iinc 2 1, 3) := by decide +kernel
theorem dX8_deepestNow_34 : decode cX8_deepestNow 34 = .ok (.goto (-30), 3) := by decide +kernel
theorem dX8_deepestNow_37 : decode cX8_deepestNow 37 = .ok (.aload_n 0, 1) := by decide +kernel
theorem dX8_deepestNow_38 : decode cX8_deepestNow 38 = .ok (.invokevirtual 132, 3) := by decide +kernel
theorem dX8_deepestNow_41 : decode cX8_deepestNow 41 = .ok (.iconst 1, 1) := by decide +kernel
theorem dX8_deepestNow_42 : decode cX8_deepestNow 42 = .ok (.istore_n 2, 1) := by decide +kernel
theorem dX8_deepestNow_43 : decode cX8_deepestNow 43 = .ok (.iload_n 2, 1) := by decide +kernel
theorem dX8_deepestNow_44 : decode cX8_deepestNow 44 = .ok (.aload_n 0, 1) := by decide +kernel
theorem dX8_deepestNow_45 : decode cX8_deepestNow 45 = .ok (.getfield 22, 3) := by decide +kernel
theorem dX8_deepestNow_48 : decode cX8_deepestNow 48 = .ok (.if_icmp .ge 39, 3) := by decide +kernel
theorem dX8_deepestNow_51 : decode cX8_deepestNow 51 = .ok (.aload_n 0, 1) := by decide +kernel
theorem dX8_deepestNow_52 : decode cX8_deepestNow 52 = .ok (.getfield 38, 3) := by decide +kernel
theorem dX8_deepestNow_55 : decode cX8_deepestNow 55 = .ok (.iload_n 2, 1) := by decide +kernel
theorem dX8_deepestNow_56 : decode cX8_deepestNow 56 = .ok (.baload, 1) := by decide +kernel
theorem dX8_deepestNow_57 : decode cX8_deepestNow 57 = .ok (.ifCond .eq 22, 3) := by decide +kernel
theorem dX8_deepestNow_60 : decode cX8_deepestNow 60 = .ok (.aload_n 0, 1) := by decide +kernel
theorem dX8_deepestNow_61 : decode cX8_deepestNow 61 = .ok (.getfield 32, 3) := by decide +kernel
theorem dX8_deepestNow_64 : decode cX8_deepestNow 64 = .ok (.iload_n 2, 1) := by decide +kernel
theorem dX8_deepestNow_65 : decode cX8_deepestNow 65 = .ok (.iaload, 1) := by decide +kernel
theorem dX8_deepestNow_66 : decode cX8_deepestNow 66 = .ok (.iload_n 1, 1) := by decide +kernel
theorem dX8_deepestNow_67 : decode cX8_deepestNow 67 = .ok (.if_icmp .ge 12, 3) := by decide +kernel
theorem dX8_deepestNow_70 : decode cX8_deepestNow 70 = .ok (.aload_n 0, 1) := by decide +kernel
theorem dX8_deepestNow_71 : decode cX8_deepestNow 71 = .ok (.getfield 32, 3) := by decide +kernel
theorem dX8_deepestNow_74 : decode cX8_deepestNow 74 = .ok (.iload_n 2, 1) := by decide +kernel
theorem dX8_deepestNow_75 : decode cX8_deepestNow 75 = .ok (.iaload, 1) := by decide +kernel
theorem dX8_deepestNow_76 : decode cX8_deepestNow 76 = .ok (.goto 4, 3) := by decide +kernel
theorem dX8_deepestNow_79 : decode cX8_deepestNow 79 = .ok (.iload_n 1, 1) := by decide +kernel
theorem dX8_deepestNow_80 : decode cX8_deepestNow 80 = .ok (.istore_n 1, 1) := by decide +kernel
theorem dX8_deepestNow_81 : decode cX8_deepestNow 81 = .ok (.iinc 2 1, 3) := by decide +kernel
theorem dX8_deepestNow_84 : decode cX8_deepestNow 84 = .ok (.goto (-41), 3) := by decide +kernel
theorem dX8_deepestNow_87 : decode cX8_deepestNow 87 = .ok (.iload_n 1, 1) := by decide +kernel
theorem dX8_deepestNow_88 : decode cX8_deepestNow 88 = .ok (.ireturn, 1) := by decide +kernel
theorem dX8_depth_0 : decode cX8_depth 0 = .ok (.aload_n 0, 1) := by decide +kernel
theorem dX8_depth_1 : decode cX8_depth 1 = .ok (.iconst 0, 1) := by decide +kernel
theorem dX8_depth_2 : decode cX8_depth 2 = .ok (.putfield 84, 3) := by decide +kernel
theorem dX8_depth_5 : decode cX8_depth 5 = .ok (.aload_n 0, 1) := by decide +kernel
theorem dX8_depth_6 : decode cX8_depth 6 = .ok (.invokevirtual 135, 3) := by decide +kernel
theorem dX8_depth_9 : decode cX8_depth 9 = .ok (.ireturn, 1) := by decide +kernel
theorem dX8_idleCost_0 : decode cX8_idleCost 0 = .ok (.iload_n 1, 1) := by decide +kernel
theorem dX8_idleCost_1 : decode cX8_idleCost 1 = .ok (.ifCond .ne 16, 3) := by decide +kernel
theorem dX8_idleCost_4 : decode cX8_idleCost 4 = .ok (.iload_n 2, 1) := by decide +kernel
theorem dX8_idleCost_5 : decode cX8_idleCost 5 = .ok (.i2l, 1) := by decide +kernel
theorem dX8_idleCost_6 : decode cX8_idleCost 6 = .ok (.aload_n 0, 1) := by decide +kernel
theorem dX8_idleCost_7 : decode cX8_idleCost 7 = .ok (.getfield 7, 3) := by decide +kernel
theorem dX8_idleCost_10 : decode cX8_idleCost 10 = .ok (.iconst 0, 1) := by decide +kernel
theorem dX8_idleCost_11 : decode cX8_idleCost 11 = .ok (.iaload, 1) := by decide +kernel
theorem dX8_idleCost_12 : decode cX8_idleCost 12 = .ok (.i2l, 1) := by decide +kernel
theorem dX8_idleCost_13 : decode cX8_idleCost 13 = .ok (.lmul, 1) := by decide +kernel
theorem dX8_idleCost_14 : decode cX8_idleCost 14 = .ok (.goto 44, 3) := by decide +kernel
theorem dX8_idleCost_17 : decode cX8_idleCost 17 = .ok (.aload_n 0, 1) := by decide +kernel
theorem dX8_idleCost_18 : decode cX8_idleCost 18 = .ok (.getfield 13, 3) := by decide +kernel
theorem dX8_idleCost_21 : decode cX8_idleCost 21 = .ok (.iload_n 1, 1) := by decide +kernel
theorem dX8_idleCost_22 : decode cX8_idleCost 22 = .ok (.iaload, 1) := by decide +kernel
theorem dX8_idleCost_23 : decode cX8_idleCost 23 = .ok (.i2l, 1) := by decide +kernel
theorem dX8_idleCost_24 : decode cX8_idleCost 24 = .ok (.aload_n 0, 1) := by decide +kernel
theorem dX8_idleCost_25 : decode cX8_idleCost 25 = .ok (.getfield 7, 3) := by decide +kernel
theorem dX8_idleCost_28 : decode cX8_idleCost 28 = .ok (.iload_n 1, 1) := by decide +kernel
theorem dX8_idleCost_29 : decode cX8_idleCost 29 = .ok (.iaload, 1) := by decide +kernel
theorem dX8_idleCost_30 : decode cX8_idleCost 30 = .ok (.i2l, 1) := by decide +kernel
theorem dX8_idleCost_31 : decode cX8_idleCost 31 = .ok (.iload_n 2, 1) := by decide +kernel
theorem dX8_idleCost_32 : decode cX8_idleCost 32 = .ok (.aload_n 0, 1) := by decide +kernel
theorem dX8_idleCost_33 : decode cX8_idleCost 33 = .ok (.getfield 16, 3) := by decide +kernel
theorem dX8_idleCost_36 : decode cX8_idleCost 36 = .ok (.iload_n 1, 1) := by decide +kernel
theorem dX8_idleCost_37 : decode cX8_idleCost 37 = .ok (.iaload, 1) := by decide +kernel
theorem dX8_idleCost_38 : decode cX8_idleCost 38 = .ok (.isub, 1) := by decide +kernel
theorem dX8_idleCost_39 : decode cX8_idleCost 39 = .ok (.i2l, 1) := by decide +kernel
theorem dX8_idleCost_40 : decode cX8_idleCost 40 = .ok (.lmul, 1) := by decide +kernel
theorem dX8_idleCost_41 : decode cX8_idleCost 41 = .ok (.ladd, 1) := by decide +kernel
theorem dX8_idleCost_42 : decode cX8_idleCost 42 = .ok (.aload_n 0, 1) := by decide +kernel
theorem dX8_idleCost_43 : decode cX8_idleCost 43 = .ok (.getfield 7, 3) := by decide +kernel
theorem dX8_idleCost_46 : decode cX8_idleCost 46 = .ok (.iconst 0, 1) := by decide +kernel
theorem dX8_idleCost_47 : decode cX8_idleCost 47 = .ok (.iaload, 1) := by decide +kernel
theorem dX8_idleCost_48 : decode cX8_idleCost 48 = .ok (.i2l, 1) := by decide +kernel
theorem dX8_idleCost_49 : decode cX8_idleCost 49 = .ok (.aload_n 0, 1) := by decide +kernel
theorem dX8_idleCost_50 : decode cX8_idleCost 50 = .ok (.getfield 16, 3) := by decide +kernel
theorem dX8_idleCost_53 : decode cX8_idleCost 53 = .ok (.iload_n 1, 1) := by decide +kernel
theorem dX8_idleCost_54 : decode cX8_idleCost 54 = .ok (.iaload, 1) := by decide +kernel
theorem dX8_idleCost_55 : decode cX8_idleCost 55 = .ok (.i2l, 1) := by decide +kernel
theorem dX8_idleCost_56 : decode cX8_idleCost 56 = .ok (.lmul, 1) := by decide +kernel
theorem dX8_idleCost_57 : decode cX8_idleCost 57 = .ok (.ladd, 1) := by decide +kernel
theorem dX8_idleCost_58 : decode cX8_idleCost 58 = .ok (.lreturn, 1) := by decide +kernel
theorem dX8_evenAt_0 : decode cX8_evenAt 0 = .ok (.aload_n 0, 1) := by decide +kernel
theorem dX8_evenAt_1 : decode cX8_evenAt 1 = .ok (.getfield 16, 3) := by decide +kernel
theorem dX8_evenAt_4 : decode cX8_evenAt 4 = .ok (.iload_n 1, 1) := by decide +kernel
theorem dX8_evenAt_5 : decode cX8_evenAt 5 = .ok (.iaload, 1) := by decide +kernel
theorem dX8_evenAt_6 : decode cX8_evenAt 6 = .ok (.istore_n 2, 1) := by decide +kernel
theorem dX8_evenAt_7 : decode cX8_evenAt 7 = .ok (.iload_n 2, 1) := by decide +kernel
theorem dX8_evenAt_8 : decode cX8_evenAt 8 = .ok (.sipush 5000, 3) := by decide +kernel
theorem dX8_evenAt_11 : decode cX8_evenAt 11 = .ok (.if_icmp .gt 25, 3) := by decide +kernel
theorem dX8_evenAt_14 : decode cX8_evenAt 14 = .ok (.aload_n 0, 1) := by decide +kernel
theorem dX8_evenAt_15 : decode cX8_evenAt 15 = .ok (.iload_n 1, 1) := by decide +kernel
theorem dX8_evenAt_16 : decode cX8_evenAt 16 = .ok (.iload_n 2, 1) := by decide +kernel
theorem dX8_evenAt_17 : decode cX8_evenAt 17 = .ok (.invokevirtual 139, 3) := by decide +kernel
theorem dX8_evenAt_20 : decode cX8_evenAt 20 = .ok (.aload_n 0, 1) := by decide +kernel
theorem dX8_evenAt_21 : decode cX8_evenAt 21 = .ok (.iconst 0, 1) := by decide +kernel
theorem dX8_evenAt_22 : decode cX8_evenAt 22 = .ok (.iload_n 2, 1) := by decide +kernel
theorem dX8_evenAt_23 : decode cX8_evenAt 23 = .ok (.invokevirtual 139, 3) := by decide +kernel
theorem dX8_evenAt_26 : decode cX8_evenAt 26 = .ok (.lcmp, 1) := by decide +kernel
theorem dX8_evenAt_27 : decode cX8_evenAt 27 = .ok (.ifCond .le 9, 3) := by decide +kernel
theorem dX8_evenAt_30 : decode cX8_evenAt 30 = .ok (.iinc 2 1, 3) := by decide +kernel
theorem dX8_evenAt_33 : decode cX8_evenAt 33 = .ok (.goto (-26), 3) := by decide +kernel
theorem dX8_evenAt_36 : decode cX8_evenAt 36 = .ok (.iload_n 2, 1) := by decide +kernel
theorem dX8_evenAt_37 : decode cX8_evenAt 37 = .ok (.sipush 5000, 3) := by decide +kernel
theorem dX8_evenAt_40 : decode cX8_evenAt 40 = .ok (.if_icmp .le 7, 3) := by decide +kernel
theorem dX8_evenAt_43 : decode cX8_evenAt 43 = .ok (.iconst (-1), 1) := by decide +kernel
theorem dX8_evenAt_44 : decode cX8_evenAt 44 = .ok (.goto 4, 3) := by decide +kernel
theorem dX8_evenAt_47 : decode cX8_evenAt 47 = .ok (.iload_n 2, 1) := by decide +kernel
theorem dX8_evenAt_48 : decode cX8_evenAt 48 = .ok (.ireturn, 1) := by decide +kernel
theorem dX8_breakEven_0 : decode cX8_breakEven 0 = .ok (.aload_n 0, 1) := by decide +kernel
theorem dX8_breakEven_1 : decode cX8_breakEven 1 = .ok (.iload_n 1, 1) := by decide +kernel
theorem dX8_breakEven_2 : decode cX8_breakEven 2 = .ok (.iconst 1, 1) := by decide +kernel
theorem dX8_breakEven_3 : decode cX8_breakEven 3 = .ok (.iconst 3, 1) := by decide +kernel
theorem dX8_breakEven_4 : decode cX8_breakEven 4 = .ok (.invokestatic 113, 3) := by decide +kernel
theorem dX8_breakEven_7 : decode cX8_breakEven 7 = .ok (.invokevirtual 117, 3) := by decide +kernel
theorem dX8_breakEven_10 : decode cX8_breakEven 10 = .ok (.ifCond .eq 11, 3) := by decide +kernel
theorem dX8_breakEven_13 : decode cX8_breakEven 13 = .ok (.aload_n 0, 1) := by decide +kernel
theorem dX8_breakEven_14 : decode cX8_breakEven 14 = .ok (.iload_n 1, 1) := by decide +kernel
theorem dX8_breakEven_15 : decode cX8_breakEven 15 = .ok (.invokevirtual 143, 3) := by decide +kernel
theorem dX8_breakEven_18 : decode cX8_breakEven 18 = .ok (.goto 4, 3) := by decide +kernel
theorem dX8_breakEven_21 : decode cX8_breakEven 21 = .ok (.iconst 0, 1) := by decide +kernel
theorem dX8_breakEven_22 : decode cX8_breakEven 22 = .ok (.ireturn, 1) := by decide +kernel
theorem dX8_schedule_0 : decode cX8_schedule 0 = .ok (.aload_n 0, 1) := by decide +kernel
theorem dX8_schedule_1 : decode cX8_schedule 1 = .ok (.iload_n 1, 1) := by decide +kernel
theorem dX8_schedule_2 : decode cX8_schedule 2 = .ok (.aload_n 0, 1) := by decide +kernel
theorem dX8_schedule_3 : decode cX8_schedule 3 = .ok (.getfield 97, 3) := by decide +kernel
theorem dX8_schedule_6 : decode cX8_schedule 6 = .ok (.aload_n 0, 1) := by decide +kernel
theorem dX8_schedule_7 : decode cX8_schedule 7 = .ok (.getfield 97, 3) := by decide +kernel
theorem dX8_schedule_10 : decode cX8_schedule 10 = .ok (.sipush 1000, 3) := by decide +kernel
theorem dX8_schedule_13 : decode cX8_schedule 13 = .ok (.iadd, 1) := by decide +kernel
theorem dX8_schedule_14 : decode cX8_schedule 14 = .ok (.invokestatic 113, 3) := by decide +kernel
theorem dX8_schedule_17 : decode cX8_schedule 17 = .ok (.ifCond .eq 28, 3) := by decide +kernel
theorem dX8_schedule_20 : decode cX8_schedule 20 = .ok (.iload_n 2, 1) := by decide +kernel
theorem dX8_schedule_21 : decode cX8_schedule 21 = .ok (.iconst 0, 1) := by decide +kernel
theorem dX8_schedule_22 : decode cX8_schedule 22 = .ok (.sipush 500, 3) := by decide +kernel
theorem dX8_schedule_25 : decode cX8_schedule 25 = .ok (.invokestatic 113, 3) := by decide +kernel
theorem dX8_schedule_28 : decode cX8_schedule 28 = .ok (.ifCond .eq 17, 3) := by decide +kernel
theorem dX8_schedule_31 : decode cX8_schedule 31 = .ok (.iload_n 3, 1) := by decide +kernel
theorem dX8_schedule_32 : decode cX8_schedule 32 = .ok (.iconst 1, 1) := by decide +kernel
theorem dX8_schedule_33 : decode cX8_schedule 33 = .ok (.bipush 50, 2) := by decide +kernel
theorem dX8_schedule_35 : decode cX8_schedule 35 = .ok (.invokestatic 113, 3) := by decide +kernel
theorem dX8_schedule_38 : decode cX8_schedule 38 = .ok (.ifCond .eq 7, 3) := by decide +kernel
theorem dX8_schedule_41 : decode cX8_schedule 41 = .ok (.iconst 1, 1) := by decide +kernel
theorem dX8_schedule_42 : decode cX8_schedule 42 = .ok (.goto 4, 3) := by decide +kernel
theorem dX8_schedule_45 : decode cX8_schedule 45 = .ok (.iconst 0, 1) := by decide +kernel
theorem dX8_schedule_46 : decode cX8_schedule 46 = .ok (.invokevirtual 117, 3) := by decide +kernel
theorem dX8_schedule_49 : decode cX8_schedule 49 = .ok (.ifCond .ne 5, 3) := by decide +kernel
theorem dX8_schedule_52 : decode cX8_schedule 52 = .ok (.iconst 0, 1) := by decide +kernel
theorem dX8_schedule_53 : decode cX8_schedule 53 = .ok (.ireturn, 1) := by decide +kernel
theorem dX8_schedule_54 : decode cX8_schedule 54 = .ok (.aload_n 0, 1) := by decide +kernel
theorem dX8_schedule_55 : decode cX8_schedule 55 = .ok (.getfield 146, 3) := by decide +kernel
theorem dX8_schedule_58 : decode cX8_schedule 58 = .ok (.bipush 12, 2) := by decide +kernel
theorem dX8_schedule_60 : decode cX8_schedule 60 = .ok (.if_icmp .ne 9, 3) := by decide +kernel
theorem dX8_schedule_63 : decode cX8_schedule 63 = .ok (.aload_n 0, 1) := by decide +kernel
theorem dX8_schedule_64 : decode cX8_schedule 64 = .ok (.iconst 2, 1) := by decide +kernel
theorem dX8_schedule_65 : decode cX8_schedule 65 = .ok (.invokevirtual 128, 3) := by decide +kernel
theorem dX8_schedule_68 : decode cX8_schedule 68 = .ok (.ireturn, 1) := by decide +kernel
theorem dX8_schedule_69 : decode cX8_schedule 69 = .ok (.aload_n 0, 1) := by decide +kernel
theorem dX8_schedule_70 : decode cX8_schedule 70 = .ok (.invokevirtual 121, 3) := by decide +kernel
theorem dX8_schedule_73 : decode cX8_schedule 73 = .ok (.aload_n 0, 1) := by decide +kernel
theorem dX8_schedule_74 : decode cX8_schedule 74 = .ok (.getfield 42, 3) := by decide +kernel
theorem dX8_schedule_77 : decode cX8_schedule 77 = .ok (.aload_n 0, 1) := by decide +kernel
theorem dX8_schedule_78 : decode cX8_schedule 78 = .ok (.getfield 146, 3) := by decide +kernel
theorem dX8_schedule_81 : decode cX8_schedule 81 = .ok (.iload_n 1, 1) := by decide +kernel
theorem dX8_schedule_82 : decode cX8_schedule 82 = .ok (.iastore, 1) := by decide +kernel
theorem dX8_schedule_83 : decode cX8_schedule 83 = .ok (.aload_n 0, 1) := by decide +kernel
theorem dX8_schedule_84 : decode cX8_schedule 84 = .ok (.getfield 45, 3) := by decide +kernel
theorem dX8_schedule_87 : decode cX8_schedule 87 = .ok (.aload_n 0, 1) := by decide +kernel
theorem dX8_schedule_88 : decode cX8_schedule 88 = .ok (.getfield 146, 3) := by decide +kernel
theorem dX8_schedule_91 : decode cX8_schedule 91 = .ok (.iload_n 1, 1) := by decide +kernel
theorem dX8_schedule_92 : decode cX8_schedule 92 = .ok (.iload_n 2, 1) := by decide +kernel
theorem dX8_schedule_93 : decode cX8_schedule 93 = .ok (.iadd, 1) := by decide +kernel
theorem dX8_schedule_94 : decode cX8_schedule 94 = .ok (.iastore, 1) := by decide +kernel
theorem dX8_schedule_95 : decode cX8_schedule 95 = .ok (.aload_n 0, 1) := by decide +kernel
theorem dX8_schedule_96 : decode cX8_schedule 96 = .ok (.getfield 48, 3) := by decide +kernel
theorem dX8_schedule_99 : decode cX8_schedule 99 = .ok (.aload_n 0, 1) := by decide +kernel
theorem dX8_schedule_100 : decode cX8_schedule 100 = .ok (.getfield 146, 3) := by decide +kernel
theorem dX8_schedule_103 : decode cX8_schedule 103 = .ok (.iload_n 3, 1) := by decide +kernel
theorem dX8_schedule_104 : decode cX8_schedule 104 = .ok (.iastore, 1) := by decide +kernel
theorem dX8_schedule_105 : decode cX8_schedule 105 = .ok (.aload_n 0, 1) := by decide +kernel
theorem dX8_schedule_106 : decode cX8_schedule 106 = .ok (.dup, 1) := by decide +kernel
theorem dX8_schedule_107 : decode cX8_schedule 107 = .ok (.getfield 146, 3) := by decide +kernel
theorem dX8_schedule_110 : decode cX8_schedule 110 = .ok (.iconst 1, 1) := by decide +kernel
theorem dX8_schedule_111 : decode cX8_schedule 111 = .ok (.iadd, 1) := by decide +kernel
theorem dX8_schedule_112 : decode cX8_schedule 112 = .ok (.putfield 146, 3) := by decide +kernel
theorem dX8_schedule_115 : decode cX8_schedule 115 = .ok (.aload_n 0, 1) := by decide +kernel
theorem dX8_schedule_116 : decode cX8_schedule 116 = .ok (.getfield 146, 3) := by decide +kernel
theorem dX8_schedule_119 : decode cX8_schedule 119 = .ok (.ireturn, 1) := by decide +kernel
theorem dX8_addEvent_0 : decode cX8_addEvent 0 = .ok (.aload_n 0, 1) := by decide +kernel
theorem dX8_addEvent_1 : decode cX8_addEvent 1 = .ok (.iload_n 1, 1) := by decide +kernel
theorem dX8_addEvent_2 : decode cX8_addEvent 2 = .ok (.aload_n 0, 1) := by decide +kernel
theorem dX8_addEvent_3 : decode cX8_addEvent 3 = .ok (.getfield 97, 3) := by decide +kernel
theorem dX8_addEvent_6 : decode cX8_addEvent 6 = .ok (.aload_n 0, 1) := by decide +kernel
theorem dX8_addEvent_7 : decode cX8_addEvent 7 = .ok (.getfield 97, 3) := by decide +kernel
theorem dX8_addEvent_10 : decode cX8_addEvent 10 = .ok (.sipush 1000, 3) := by decide +kernel
theorem dX8_addEvent_13 : decode cX8_addEvent 13 = .ok (.iadd, 1) := by decide +kernel
theorem dX8_addEvent_14 : decode cX8_addEvent 14 = .ok (.invokestatic 113, 3) := by decide +kernel
theorem dX8_addEvent_17 : decode cX8_addEvent 17 = .ok (.ifCond .eq 17, 3) := by decide +kernel
theorem dX8_addEvent_20 : decode cX8_addEvent 20 = .ok (.iload_n 2, 1) := by decide +kernel
theorem dX8_addEvent_21 : decode cX8_addEvent 21 = .ok (.iconst 1, 1) := by decide +kernel
theorem dX8_addEvent_22 : decode cX8_addEvent 22 = .ok (.bipush 50, 2) := by decide +kernel
theorem dX8_addEvent_24 : decode cX8_addEvent 24 = .ok (.invokestatic 113, 3) := by decide +kernel
theorem dX8_addEvent_27 : decode cX8_addEvent 27 = .ok (.ifCond .eq 7, 3) := by decide +kernel
theorem dX8_addEvent_30 : decode cX8_addEvent 30 = .ok (.iconst 1, 1) := by decide +kernel
theorem dX8_addEvent_31 : decode cX8_addEvent 31 = .ok (.goto 4, 3) := by decide +kernel
theorem dX8_addEvent_34 : decode cX8_addEvent 34 = .ok (.iconst 0, 1) := by decide +kernel
theorem dX8_addEvent_35 : decode cX8_addEvent 35 = .ok (.invokevirtual 117, 3) := by decide +kernel
theorem dX8_addEvent_38 : decode cX8_addEvent 38 = .ok (.ifCond .ne 5, 3) := by decide +kernel
theorem dX8_addEvent_41 : decode cX8_addEvent 41 = .ok (.iconst 0, 1) := by decide +kernel
theorem dX8_addEvent_42 : decode cX8_addEvent 42 = .ok (.ireturn, 1) := by decide +kernel
theorem dX8_addEvent_43 : decode cX8_addEvent 43 = .ok (.aload_n 0, 1) := by decide +kernel
theorem dX8_addEvent_44 : decode cX8_addEvent 44 = .ok (.getfield 149, 3) := by decide +kernel
theorem dX8_addEvent_47 : decode cX8_addEvent 47 = .ok (.bipush 12, 2) := by decide +kernel
theorem dX8_addEvent_49 : decode cX8_addEvent 49 = .ok (.if_icmp .ne 9, 3) := by decide +kernel
theorem dX8_addEvent_52 : decode cX8_addEvent 52 = .ok (.aload_n 0, 1) := by decide +kernel
theorem dX8_addEvent_53 : decode cX8_addEvent 53 = .ok (.iconst 2, 1) := by decide +kernel
theorem dX8_addEvent_54 : decode cX8_addEvent 54 = .ok (.invokevirtual 128, 3) := by decide +kernel
theorem dX8_addEvent_57 : decode cX8_addEvent 57 = .ok (.ireturn, 1) := by decide +kernel
theorem dX8_addEvent_58 : decode cX8_addEvent 58 = .ok (.aload_n 0, 1) := by decide +kernel
theorem dX8_addEvent_59 : decode cX8_addEvent 59 = .ok (.getfield 51, 3) := by decide +kernel
theorem dX8_addEvent_62 : decode cX8_addEvent 62 = .ok (.aload_n 0, 1) := by decide +kernel
theorem dX8_addEvent_63 : decode cX8_addEvent 63 = .ok (.getfield 149, 3) := by decide +kernel
theorem dX8_addEvent_66 : decode cX8_addEvent 66 = .ok (.iload_n 1, 1) := by decide +kernel
theorem dX8_addEvent_67 : decode cX8_addEvent 67 = .ok (.iastore, 1) := by decide +kernel
theorem dX8_addEvent_68 : decode cX8_addEvent 68 = .ok (.aload_n 0, 1) := by decide +kernel
theorem dX8_addEvent_69 : decode cX8_addEvent 69 = .ok (.getfield 54, 3) := by decide +kernel
theorem dX8_addEvent_72 : decode cX8_addEvent 72 = .ok (.aload_n 0, 1) := by decide +kernel
theorem dX8_addEvent_73 : decode cX8_addEvent 73 = .ok (.getfield 149, 3) := by decide +kernel
theorem dX8_addEvent_76 : decode cX8_addEvent 76 = .ok (.iload_n 2, 1) := by decide +kernel
theorem dX8_addEvent_77 : decode cX8_addEvent 77 = .ok (.iastore, 1) := by decide +kernel
theorem dX8_addEvent_78 : decode cX8_addEvent 78 = .ok (.aload_n 0, 1) := by decide +kernel
theorem dX8_addEvent_79 : decode cX8_addEvent 79 = .ok (.dup, 1) := by decide +kernel
theorem dX8_addEvent_80 : decode cX8_addEvent 80 = .ok (.getfield 149, 3) := by decide +kernel
theorem dX8_addEvent_83 : decode cX8_addEvent 83 = .ok (.iconst 1, 1) := by decide +kernel
theorem dX8_addEvent_84 : decode cX8_addEvent 84 = .ok (.iadd, 1) := by decide +kernel
theorem dX8_addEvent_85 : decode cX8_addEvent 85 = .ok (.putfield 149, 3) := by decide +kernel
theorem dX8_addEvent_88 : decode cX8_addEvent 88 = .ok (.aload_n 0, 1) := by decide +kernel
theorem dX8_addEvent_89 : decode cX8_addEvent 89 = .ok (.getfield 149, 3) := by decide +kernel
theorem dX8_addEvent_92 : decode cX8_addEvent 92 = .ok (.ireturn, 1) := by decide +kernel
theorem dX8_setRule_0 : decode cX8_setRule 0 = .ok (.aload_n 0, 1) := by decide +kernel
theorem dX8_setRule_1 : decode cX8_setRule 1 = .ok (.iload_n 1, 1) := by decide +kernel
theorem dX8_setRule_2 : decode cX8_setRule 2 = .ok (.iconst 0, 1) := by decide +kernel
theorem dX8_setRule_3 : decode cX8_setRule 3 = .ok (.iconst 2, 1) := by decide +kernel
theorem dX8_setRule_4 : decode cX8_setRule 4 = .ok (.invokestatic 113, 3) := by decide +kernel
theorem dX8_setRule_7 : decode cX8_setRule 7 = .ok (.invokevirtual 117, 3) := by decide +kernel
theorem dX8_setRule_10 : decode cX8_setRule 10 = .ok (.ifCond .ne 5, 3) := by decide +kernel
theorem dX8_setRule_13 : decode cX8_setRule 13 = .ok (.iconst 0, 1) := by decide +kernel
theorem dX8_setRule_14 : decode cX8_setRule 14 = .ok (.ireturn, 1) := by decide +kernel
theorem dX8_setRule_15 : decode cX8_setRule 15 = .ok (.aload_n 0, 1) := by decide +kernel
theorem dX8_setRule_16 : decode cX8_setRule 16 = .ok (.invokevirtual 121, 3) := by decide +kernel
theorem dX8_setRule_19 : decode cX8_setRule 19 = .ok (.aload_n 0, 1) := by decide +kernel
theorem dX8_setRule_20 : decode cX8_setRule 20 = .ok (.getfield 57, 3) := by decide +kernel
theorem dX8_setRule_23 : decode cX8_setRule 23 = .ok (.istore_n 2, 1) := by decide +kernel
theorem dX8_setRule_24 : decode cX8_setRule 24 = .ok (.aload_n 0, 1) := by decide +kernel
theorem dX8_setRule_25 : decode cX8_setRule 25 = .ok (.iload_n 1, 1) := by decide +kernel
theorem dX8_setRule_26 : decode cX8_setRule 26 = .ok (.putfield 57, 3) := by decide +kernel
theorem dX8_setRule_29 : decode cX8_setRule 29 = .ok (.iload_n 2, 1) := by decide +kernel
theorem dX8_setRule_30 : decode cX8_setRule 30 = .ok (.ireturn, 1) := by decide +kernel
theorem dX8_timers_0 : decode cX8_timers 0 = .ok (.aload_n 0, 1) := by decide +kernel
theorem dX8_timers_1 : decode cX8_timers 1 = .ok (.iconst 0, 1) := by decide +kernel
theorem dX8_timers_2 : decode cX8_timers 2 = .ok (.putfield 84, 3) := by decide +kernel
theorem dX8_timers_5 : decode cX8_timers 5 = .ok (.aload_n 0, 1) := by decide +kernel
theorem dX8_timers_6 : decode cX8_timers 6 = .ok (.getfield 146, 3) := by decide +kernel
theorem dX8_timers_9 : decode cX8_timers 9 = .ok (.ireturn, 1) := by decide +kernel
theorem dX8_next_0 : decode cX8_next 0 = .ok (.ldc 152, 2) := by decide +kernel
theorem dX8_next_2 : decode cX8_next 2 = .ok (.istore_n 1, 1) := by decide +kernel
theorem dX8_next_3 : decode cX8_next 3 = .ok (.iconst 0, 1) := by decide +kernel
theorem dX8_next_4 : decode cX8_next 4 = .ok (.istore_n 2, 1) := by decide +kernel
theorem dX8_next_5 : decode cX8_next 5 = .ok (.iload_n 2, 1) := by decide +kernel
theorem dX8_next_6 : decode cX8_next 6 = .ok (.aload_n 0, 1) := by decide +kernel
theorem dX8_next_7 : decode cX8_next 7 = .ok (.getfield 146, 3) := by decide +kernel
theorem dX8_next_10 : decode cX8_next 10 = .ok (.if_icmp .ge 30, 3) := by decide +kernel
theorem dX8_next_13 : decode cX8_next 13 = .ok (.aload_n 0, 1) := by decide +kernel
theorem dX8_next_14 : decode cX8_next 14 = .ok (.getfield 45, 3) := by decide +kernel
theorem dX8_next_17 : decode cX8_next 17 = .ok (.iload_n 2, 1) := by decide +kernel
theorem dX8_next_18 : decode cX8_next 18 = .ok (.iaload, 1) := by decide +kernel
theorem dX8_next_19 : decode cX8_next 19 = .ok (.iload_n 1, 1) := by decide +kernel
theorem dX8_next_20 : decode cX8_next 20 = .ok (.if_icmp .ge 12, 3) := by decide +kernel
theorem dX8_next_23 : decode cX8_next 23 = .ok (.aload_n 0, 1) := by decide +kernel
theorem dX8_next_24 : decode cX8_next 24 = .ok (.getfield 45, 3) := by decide +kernel
theorem dX8_next_27 : decode cX8_next 27 = .ok (.iload_n 2, 1) := by decide +kernel
theorem dX8_next_28 : decode cX8_next 28 = .ok (.iaload, 1) := by decide +kernel
theorem dX8_next_29 : decode cX8_next 29 = .ok (.goto 4, 3) := by decide +kernel
theorem dX8_next_32 : decode cX8_next 32 = .ok (.iload_n 1, 1) := by decide +kernel
theorem dX8_next_33 : decode cX8_next 33 = .ok (.istore_n 1, 1) := by decide +kernel
theorem dX8_next_34 : decode cX8_next 34 = .ok (.iinc 2 1, 3) := by decide +kernel
theorem dX8_next_37 : decode cX8_next 37 = .ok (.goto (-32), 3) := by decide +kernel
theorem dX8_next_40 : decode cX8_next 40 = .ok (.iload_n 1, 1) := by decide +kernel
theorem dX8_next_41 : decode cX8_next 41 = .ok (.ireturn, 1) := by decide +kernel
theorem dX8_nextWakeup_0 : decode cX8_nextWakeup 0 = .ok (.aload_n 0, 1) := by decide +kernel
theorem dX8_nextWakeup_1 : decode cX8_nextWakeup 1 = .ok (.iconst 0, 1) := by decide +kernel
theorem dX8_nextWakeup_2 : decode cX8_nextWakeup 2 = .ok (.putfield 84, 3) := by decide +kernel
theorem dX8_nextWakeup_5 : decode cX8_nextWakeup 5 = .ok (.aload_n 0, 1) := by decide +kernel
theorem dX8_nextWakeup_6 : decode cX8_nextWakeup 6 = .ok (.getfield 146, 3) := by decide +kernel
theorem dX8_nextWakeup_9 : decode cX8_nextWakeup 9 = .ok (.ifCond .ne 7, 3) := by decide +kernel
theorem dX8_nextWakeup_12 : decode cX8_nextWakeup 12 = .ok (.iconst (-1), 1) := by decide +kernel
theorem dX8_nextWakeup_13 : decode cX8_nextWakeup 13 = .ok (.goto 7, 3) := by decide +kernel
theorem dX8_nextWakeup_16 : decode cX8_nextWakeup 16 = .ok (.aload_n 0, 1) := by decide +kernel
theorem dX8_nextWakeup_17 : decode cX8_nextWakeup 17 = .ok (.invokevirtual 153, 3) := by decide +kernel
theorem dX8_nextWakeup_20 : decode cX8_nextWakeup 20 = .ok (.ireturn, 1) := by decide +kernel
theorem dX8_isEvent_0 : decode cX8_isEvent 0 = .ok (.iconst 0, 1) := by decide +kernel
theorem dX8_isEvent_1 : decode cX8_isEvent 1 = .ok (.istore_n 1, 1) := by decide +kernel
theorem dX8_isEvent_2 : decode cX8_isEvent 2 = .ok (.iconst 0, 1) := by decide +kernel
theorem dX8_isEvent_3 : decode cX8_isEvent 3 = .ok (.istore_n 2, 1) := by decide +kernel
theorem dX8_isEvent_4 : decode cX8_isEvent 4 = .ok (.iload_n 2, 1) := by decide +kernel
theorem dX8_isEvent_5 : decode cX8_isEvent 5 = .ok (.aload_n 0, 1) := by decide +kernel
end
section
theorem dX8_isEvent_6 : decode cX8_isEvent 6 = .ok (.getfield 149, 3) := by decide +kernel
theorem dX8_isEvent_9 : decode cX8_isEvent 9 = .ok (.if_icmp .ge 32, 3) := by decide +kernel
theorem dX8_isEvent_12 : decode cX8_isEvent 12 = .ok (.iload_n 1, 1) := by decide +kernel
theorem dX8_isEvent_13 : decode cX8_isEvent 13 = .ok (.ifCond .ne 16, 3) := by decide +kernel
theorem dX8_isEvent_16 : decode cX8_isEvent 16 = .ok (.aload_n 0, 1) := by decide +kernel
theorem dX8_isEvent_17 : decode cX8_isEvent 17 = .ok (.getfield 51, 3) := by decide +kernel
theorem dX8_isEvent_20 : decode cX8_isEvent 20 = .ok (.iload_n 2, 1) := by decide +kernel
theorem dX8_isEvent_21 : decode cX8_isEvent 21 = .ok (.iaload, 1) := by decide +kernel
theorem dX8_isEvent_22 : decode cX8_isEvent 22 = .ok (.aload_n 0, 1) := by decide +kernel
theorem dX8_isEvent_23 : decode cX8_isEvent 23 = .ok (.getfield 97, 3) := by decide +kernel
theorem dX8_isEvent_26 : decode cX8_isEvent 26 = .ok (.if_icmp .ne 7, 3) := by decide +kernel
theorem dX8_isEvent_29 : decode cX8_isEvent 29 = .ok (.iconst 1, 1) := by decide +kernel
theorem dX8_isEvent_30 : decode cX8_isEvent 30 = .ok (.goto 4, 3) := by decide +kernel
theorem dX8_isEvent_33 : decode cX8_isEvent 33 = .ok (.iconst 0, 1) := by decide +kernel
theorem dX8_isEvent_34 : decode cX8_isEvent 34 = .ok (.istore_n 1, 1) := by decide +kernel
theorem dX8_isEvent_35 : decode cX8_isEvent 35 = .ok (.iinc 2 1, 3) := by decide +kernel
theorem dX8_isEvent_38 : decode cX8_isEvent 38 = .ok (.goto (-34), 3) := by decide +kernel
theorem dX8_isEvent_41 : decode cX8_isEvent 41 = .ok (.iload_n 1, 1) := by decide +kernel
theorem dX8_isEvent_42 : decode cX8_isEvent 42 = .ok (.ireturn, 1) := by decide +kernel
theorem dX8_mayWake_0 : decode cX8_mayWake 0 = .ok (.aload_n 0, 1) := by decide +kernel
theorem dX8_mayWake_1 : decode cX8_mayWake 1 = .ok (.getfield 103, 3) := by decide +kernel
theorem dX8_mayWake_4 : decode cX8_mayWake 4 = .ok (.ifCond .ne 4, 3) := by decide +kernel
theorem dX8_mayWake_7 : decode cX8_mayWake 7 = .ok (.return_, 1) := by decide +kernel
theorem dX8_mayWake_8 : decode cX8_mayWake 8 = .ok (.aload_n 0, 1) := by decide +kernel
theorem dX8_mayWake_9 : decode cX8_mayWake 9 = .ok (.invokevirtual 153, 3) := by decide +kernel
theorem dX8_mayWake_12 : decode cX8_mayWake 12 = .ok (.aload_n 0, 1) := by decide +kernel
theorem dX8_mayWake_13 : decode cX8_mayWake 13 = .ok (.getfield 97, 3) := by decide +kernel
theorem dX8_mayWake_16 : decode cX8_mayWake 16 = .ok (.if_icmp .ne 10, 3) := by decide +kernel
theorem dX8_mayWake_19 : decode cX8_mayWake 19 = .ok (.aload_n 0, 1) := by decide +kernel
theorem dX8_mayWake_20 : decode cX8_mayWake 20 = .ok (.invokevirtual 110, 3) := by decide +kernel
theorem dX8_mayWake_23 : decode cX8_mayWake 23 = .ok (.goto 53, 3) := by decide +kernel
theorem dX8_mayWake_26 : decode cX8_mayWake 26 = .ok (.aload_n 0, 1) := by decide +kernel
theorem dX8_mayWake_27 : decode cX8_mayWake 27 = .ok (.invokevirtual 156, 3) := by decide +kernel
theorem dX8_mayWake_30 : decode cX8_mayWake 30 = .ok (.ifCond .eq 46, 3) := by decide +kernel
theorem dX8_mayWake_33 : decode cX8_mayWake 33 = .ok (.aload_n 0, 1) := by decide +kernel
theorem dX8_mayWake_34 : decode cX8_mayWake 34 = .ok (.aload_n 0, 1) := by decide +kernel
theorem dX8_mayWake_35 : decode cX8_mayWake 35 = .ok (.getfield 7, 3) := by decide +kernel
theorem dX8_mayWake_38 : decode cX8_mayWake 38 = .ok (.iconst 0, 1) := by decide +kernel
theorem dX8_mayWake_39 : decode cX8_mayWake 39 = .ok (.iaload, 1) := by decide +kernel
theorem dX8_mayWake_40 : decode cX8_mayWake 40 = .ok (.aload_n 0, 1) := by decide +kernel
theorem dX8_mayWake_41 : decode cX8_mayWake 41 = .ok (.getfield 16, 3) := by decide +kernel
theorem dX8_mayWake_44 : decode cX8_mayWake 44 = .ok (.aload_n 0, 1) := by decide +kernel
theorem dX8_mayWake_45 : decode cX8_mayWake 45 = .ok (.getfield 103, 3) := by decide +kernel
theorem dX8_mayWake_48 : decode cX8_mayWake 48 = .ok (.iaload, 1) := by decide +kernel
theorem dX8_mayWake_49 : decode cX8_mayWake 49 = .ok (.imul, 1) := by decide +kernel
theorem dX8_mayWake_50 : decode cX8_mayWake 50 = .ok (.i2l, 1) := by decide +kernel
theorem dX8_mayWake_51 : decode cX8_mayWake 51 = .ok (.invokevirtual 106, 3) := by decide +kernel
theorem dX8_mayWake_54 : decode cX8_mayWake 54 = .ok (.aload_n 0, 1) := by decide +kernel
theorem dX8_mayWake_55 : decode cX8_mayWake 55 = .ok (.dup, 1) := by decide +kernel
theorem dX8_mayWake_56 : decode cX8_mayWake 56 = .ok (.getfield 160, 3) := by decide +kernel
theorem dX8_mayWake_59 : decode cX8_mayWake 59 = .ok (.aload_n 0, 1) := by decide +kernel
theorem dX8_mayWake_60 : decode cX8_mayWake 60 = .ok (.getfield 16, 3) := by decide +kernel
theorem dX8_mayWake_63 : decode cX8_mayWake 63 = .ok (.aload_n 0, 1) := by decide +kernel
theorem dX8_mayWake_64 : decode cX8_mayWake 64 = .ok (.getfield 103, 3) := by decide +kernel
theorem dX8_mayWake_67 : decode cX8_mayWake 67 = .ok (.iaload, 1) := by decide +kernel
theorem dX8_mayWake_68 : decode cX8_mayWake 68 = .ok (.iadd, 1) := by decide +kernel
theorem dX8_mayWake_69 : decode cX8_mayWake 69 = .ok (.putfield 160, 3) := by decide +kernel
theorem dX8_mayWake_72 : decode cX8_mayWake 72 = .ok (.aload_n 0, 1) := by decide +kernel
theorem dX8_mayWake_73 : decode cX8_mayWake 73 = .ok (.invokevirtual 110, 3) := by decide +kernel
theorem dX8_mayWake_76 : decode cX8_mayWake 76 = .ok (.return_, 1) := by decide +kernel
theorem dX8_serves_0 : decode cX8_serves 0 = .ok (.aload_n 0, 1) := by decide +kernel
theorem dX8_serves_1 : decode cX8_serves 1 = .ok (.dup, 1) := by decide +kernel
theorem dX8_serves_2 : decode cX8_serves 2 = .ok (.getfield 163, 3) := by decide +kernel
theorem dX8_serves_5 : decode cX8_serves 5 = .ok (.iload_n 1, 1) := by decide +kernel
theorem dX8_serves_6 : decode cX8_serves 6 = .ok (.iadd, 1) := by decide +kernel
theorem dX8_serves_7 : decode cX8_serves 7 = .ok (.putfield 163, 3) := by decide +kernel
theorem dX8_serves_10 : decode cX8_serves 10 = .ok (.aload_n 0, 1) := by decide +kernel
theorem dX8_serves_11 : decode cX8_serves 11 = .ok (.iload_n 1, 1) := by decide +kernel
theorem dX8_serves_12 : decode cX8_serves 12 = .ok (.aload_n 0, 1) := by decide +kernel
theorem dX8_serves_13 : decode cX8_serves 13 = .ok (.getfield 7, 3) := by decide +kernel
theorem dX8_serves_16 : decode cX8_serves 16 = .ok (.iconst 0, 1) := by decide +kernel
theorem dX8_serves_17 : decode cX8_serves 17 = .ok (.iaload, 1) := by decide +kernel
theorem dX8_serves_18 : decode cX8_serves 18 = .ok (.imul, 1) := by decide +kernel
theorem dX8_serves_19 : decode cX8_serves 19 = .ok (.i2l, 1) := by decide +kernel
theorem dX8_serves_20 : decode cX8_serves 20 = .ok (.invokevirtual 106, 3) := by decide +kernel
theorem dX8_serves_23 : decode cX8_serves 23 = .ok (.return_, 1) := by decide +kernel
theorem dX8_servesAll_0 : decode cX8_servesAll 0 = .ok (.iconst 0, 1) := by decide +kernel
theorem dX8_servesAll_1 : decode cX8_servesAll 1 = .ok (.istore_n 1, 1) := by decide +kernel
theorem dX8_servesAll_2 : decode cX8_servesAll 2 = .ok (.iconst 0, 1) := by decide +kernel
theorem dX8_servesAll_3 : decode cX8_servesAll 3 = .ok (.istore_n 2, 1) := by decide +kernel
theorem dX8_servesAll_4 : decode cX8_servesAll 4 = .ok (.iload_n 2, 1) := by decide +kernel
theorem dX8_servesAll_5 : decode cX8_servesAll 5 = .ok (.aload_n 0, 1) := by decide +kernel
theorem dX8_servesAll_6 : decode cX8_servesAll 6 = .ok (.getfield 149, 3) := by decide +kernel
theorem dX8_servesAll_9 : decode cX8_servesAll 9 = .ok (.if_icmp .ge 62, 3) := by decide +kernel
theorem dX8_servesAll_12 : decode cX8_servesAll 12 = .ok (.aload_n 0, 1) := by decide +kernel
theorem dX8_servesAll_13 : decode cX8_servesAll 13 = .ok (.getfield 51, 3) := by decide +kernel
theorem dX8_servesAll_16 : decode cX8_servesAll 16 = .ok (.iload_n 2, 1) := by decide +kernel
theorem dX8_servesAll_17 : decode cX8_servesAll 17 = .ok (.iaload, 1) := by decide +kernel
theorem dX8_servesAll_18 : decode cX8_servesAll 18 = .ok (.aload_n 0, 1) := by decide +kernel
theorem dX8_servesAll_19 : decode cX8_servesAll 19 = .ok (.getfield 97, 3) := by decide +kernel
theorem dX8_servesAll_22 : decode cX8_servesAll 22 = .ok (.if_icmp .ne 16, 3) := by decide +kernel
theorem dX8_servesAll_25 : decode cX8_servesAll 25 = .ok (.aload_n 0, 1) := by decide +kernel
theorem dX8_servesAll_26 : decode cX8_servesAll 26 = .ok (.aload_n 0, 1) := by decide +kernel
theorem dX8_servesAll_27 : decode cX8_servesAll 27 = .ok (.getfield 54, 3) := by decide +kernel
theorem dX8_servesAll_30 : decode cX8_servesAll 30 = .ok (.iload_n 2, 1) := by decide +kernel
theorem dX8_servesAll_31 : decode cX8_servesAll 31 = .ok (.iaload, 1) := by decide +kernel
theorem dX8_servesAll_32 : decode cX8_servesAll 32 = .ok (.invokevirtual 166, 3) := by decide +kernel
theorem dX8_servesAll_35 : decode cX8_servesAll 35 = .ok (.goto 30, 3) := by decide +kernel
theorem dX8_servesAll_38 : decode cX8_servesAll 38 = .ok (.aload_n 0, 1) := by decide +kernel
theorem dX8_servesAll_39 : decode cX8_servesAll 39 = .ok (.getfield 51, 3) := by decide +kernel
theorem dX8_servesAll_42 : decode cX8_servesAll 42 = .ok (.iload_n 1, 1) := by decide +kernel
theorem dX8_servesAll_43 : decode cX8_servesAll 43 = .ok (.aload_n 0, 1) := by decide +kernel
theorem dX8_servesAll_44 : decode cX8_servesAll 44 = .ok (.getfield 51, 3) := by decide +kernel
theorem dX8_servesAll_47 : decode cX8_servesAll 47 = .ok (.iload_n 2, 1) := by decide +kernel
theorem dX8_servesAll_48 : decode cX8_servesAll 48 = .ok (.iaload, 1) := by decide +kernel
theorem dX8_servesAll_49 : decode cX8_servesAll 49 = .ok (.iastore, 1) := by decide +kernel
theorem dX8_servesAll_50 : decode cX8_servesAll 50 = .ok (.aload_n 0, 1) := by decide +kernel
theorem dX8_servesAll_51 : decode cX8_servesAll 51 = .ok (.getfield 54, 3) := by decide +kernel
theorem dX8_servesAll_54 : decode cX8_servesAll 54 = .ok (.iload_n 1, 1) := by decide +kernel
theorem dX8_servesAll_55 : decode cX8_servesAll 55 = .ok (.aload_n 0, 1) := by decide +kernel
theorem dX8_servesAll_56 : decode cX8_servesAll 56 = .ok (.getfield 54, 3) := by decide +kernel
theorem dX8_servesAll_59 : decode cX8_servesAll 59 = .ok (.iload_n 2, 1) := by decide +kernel
theorem dX8_servesAll_60 : decode cX8_servesAll 60 = .ok (.iaload, 1) := by decide +kernel
theorem dX8_servesAll_61 : decode cX8_servesAll 61 = .ok (.iastore, 1) := by decide +kernel
theorem dX8_servesAll_62 : decode cX8_servesAll 62 = .ok (.iinc 1 1, 3) := by decide +kernel
theorem dX8_servesAll_65 : decode cX8_servesAll 65 = .ok (.iinc 2 1, 3) := by decide +kernel
theorem dX8_servesAll_68 : decode cX8_servesAll 68 = .ok (.goto (-64), 3) := by decide +kernel
theorem dX8_servesAll_71 : decode cX8_servesAll 71 = .ok (.aload_n 0, 1) := by decide +kernel
theorem dX8_servesAll_72 : decode cX8_servesAll 72 = .ok (.iload_n 1, 1) := by decide +kernel
theorem dX8_servesAll_73 : decode cX8_servesAll 73 = .ok (.putfield 149, 3) := by decide +kernel
theorem dX8_servesAll_76 : decode cX8_servesAll 76 = .ok (.iconst 0, 1) := by decide +kernel
theorem dX8_servesAll_77 : decode cX8_servesAll 77 = .ok (.istore_n 1, 1) := by decide +kernel
theorem dX8_servesAll_78 : decode cX8_servesAll 78 = .ok (.iconst 0, 1) := by decide +kernel
theorem dX8_servesAll_79 : decode cX8_servesAll 79 = .ok (.istore_n 2, 1) := by decide +kernel
theorem dX8_servesAll_80 : decode cX8_servesAll 80 = .ok (.iload_n 2, 1) := by decide +kernel
theorem dX8_servesAll_81 : decode cX8_servesAll 81 = .ok (.aload_n 0, 1) := by decide +kernel
theorem dX8_servesAll_82 : decode cX8_servesAll 82 = .ok (.getfield 146, 3) := by decide +kernel
theorem dX8_servesAll_85 : decode cX8_servesAll 85 = .ok (.if_icmp .ge 74, 3) := by decide +kernel
theorem dX8_servesAll_88 : decode cX8_servesAll 88 = .ok (.aload_n 0, 1) := by decide +kernel
theorem dX8_servesAll_89 : decode cX8_servesAll 89 = .ok (.getfield 42, 3) := by decide +kernel
theorem dX8_servesAll_92 : decode cX8_servesAll 92 = .ok (.iload_n 2, 1) := by decide +kernel
theorem dX8_servesAll_93 : decode cX8_servesAll 93 = .ok (.iaload, 1) := by decide +kernel
theorem dX8_servesAll_94 : decode cX8_servesAll 94 = .ok (.aload_n 0, 1) := by decide +kernel
theorem dX8_servesAll_95 : decode cX8_servesAll 95 = .ok (.getfield 97, 3) := by decide +kernel
theorem dX8_servesAll_98 : decode cX8_servesAll 98 = .ok (.if_icmp .gt 16, 3) := by decide +kernel
theorem dX8_servesAll_101 : decode cX8_servesAll 101 = .ok (.aload_n 0, 1) := by decide +kernel
theorem dX8_servesAll_102 : decode cX8_servesAll 102 = .ok (.aload_n 0, 1) := by decide +kernel
theorem dX8_servesAll_103 : decode cX8_servesAll 103 = .ok (.getfield 48, 3) := by decide +kernel
theorem dX8_servesAll_106 : decode cX8_servesAll 106 = .ok (.iload_n 2, 1) := by decide +kernel
theorem dX8_servesAll_107 : decode cX8_servesAll 107 = .ok (.iaload, 1) := by decide +kernel
theorem dX8_servesAll_108 : decode cX8_servesAll 108 = .ok (.invokevirtual 166, 3) := by decide +kernel
theorem dX8_servesAll_111 : decode cX8_servesAll 111 = .ok (.goto 42, 3) := by decide +kernel
theorem dX8_servesAll_114 : decode cX8_servesAll 114 = .ok (.aload_n 0, 1) := by decide +kernel
theorem dX8_servesAll_115 : decode cX8_servesAll 115 = .ok (.getfield 42, 3) := by decide +kernel
theorem dX8_servesAll_118 : decode cX8_servesAll 118 = .ok (.iload_n 1, 1) := by decide +kernel
theorem dX8_servesAll_119 : decode cX8_servesAll 119 = .ok (.aload_n 0, 1) := by decide +kernel
theorem dX8_servesAll_120 : decode cX8_servesAll 120 = .ok (.getfield 42, 3) := by decide +kernel
theorem dX8_servesAll_123 : decode cX8_servesAll 123 = .ok (.iload_n 2, 1) := by decide +kernel
theorem dX8_servesAll_124 : decode cX8_servesAll 124 = .ok (.iaload, 1) := by decide +kernel
theorem dX8_servesAll_125 : decode cX8_servesAll 125 = .ok (.iastore, 1) := by decide +kernel
theorem dX8_servesAll_126 : decode cX8_servesAll 126 = .ok (.aload_n 0, 1) := by decide +kernel
theorem dX8_servesAll_127 : decode cX8_servesAll 127 = .ok (.getfield 45, 3) := by decide +kernel
theorem dX8_servesAll_130 : decode cX8_servesAll 130 = .ok (.iload_n 1, 1) := by decide +kernel
theorem dX8_servesAll_131 : decode cX8_servesAll 131 = .ok (.aload_n 0, 1) := by decide +kernel
theorem dX8_servesAll_132 : decode cX8_servesAll 132 = .ok (.getfield 45, 3) := by decide +kernel
theorem dX8_servesAll_135 : decode cX8_servesAll 135 = .ok (.iload_n 2, 1) := by decide +kernel
theorem dX8_servesAll_136 : decode cX8_servesAll 136 = .ok (.iaload, 1) := by decide +kernel
theorem dX8_servesAll_137 : decode cX8_servesAll 137 = .ok (.iastore, 1) := by decide +kernel
theorem dX8_servesAll_138 : decode cX8_servesAll 138 = .ok (.aload_n 0, 1) := by decide +kernel
theorem dX8_servesAll_139 : decode cX8_servesAll 139 = .ok (.getfield 48, 3) := by decide +kernel
theorem dX8_servesAll_142 : decode cX8_servesAll 142 = .ok (.iload_n 1, 1) := by decide +kernel
theorem dX8_servesAll_143 : decode cX8_servesAll 143 = .ok (.aload_n 0, 1) := by decide +kernel
theorem dX8_servesAll_144 : decode cX8_servesAll 144 = .ok (.getfield 48, 3) := by decide +kernel
theorem dX8_servesAll_147 : decode cX8_servesAll 147 = .ok (.iload_n 2, 1) := by decide +kernel
theorem dX8_servesAll_148 : decode cX8_servesAll 148 = .ok (.iaload, 1) := by decide +kernel
theorem dX8_servesAll_149 : decode cX8_servesAll 149 = .ok (.iastore, 1) := by decide +kernel
theorem dX8_servesAll_150 : decode cX8_servesAll 150 = .ok (.iinc 1 1, 3) := by decide +kernel
theorem dX8_servesAll_153 : decode cX8_servesAll 153 = .ok (.iinc 2 1, 3) := by decide +kernel
theorem dX8_servesAll_156 : decode cX8_servesAll 156 = .ok (.goto (-76), 3) := by decide +kernel
theorem dX8_servesAll_159 : decode cX8_servesAll 159 = .ok (.aload_n 0, 1) := by decide +kernel
theorem dX8_servesAll_160 : decode cX8_servesAll 160 = .ok (.iload_n 1, 1) := by decide +kernel
theorem dX8_servesAll_161 : decode cX8_servesAll 161 = .ok (.putfield 146, 3) := by decide +kernel
theorem dX8_servesAll_164 : decode cX8_servesAll 164 = .ok (.return_, 1) := by decide +kernel
theorem dX8_mean_0 : decode cX8_mean 0 = .ok (.aload_n 0, 1) := by decide +kernel
theorem dX8_mean_1 : decode cX8_mean 1 = .ok (.getfield 94, 3) := by decide +kernel
theorem dX8_mean_4 : decode cX8_mean 4 = .ok (.iconst 4, 1) := by decide +kernel
theorem dX8_mean_5 : decode cX8_mean 5 = .ok (.if_icmp .ge 10, 3) := by decide +kernel
theorem dX8_mean_8 : decode cX8_mean 8 = .ok (.aload_n 0, 1) := by decide +kernel
theorem dX8_mean_9 : decode cX8_mean 9 = .ok (.getfield 94, 3) := by decide +kernel
theorem dX8_mean_12 : decode cX8_mean 12 = .ok (.goto 4, 3) := by decide +kernel
theorem dX8_mean_15 : decode cX8_mean 15 = .ok (.iconst 4, 1) := by decide +kernel
theorem dX8_mean_16 : decode cX8_mean 16 = .ok (.istore_n 1, 1) := by decide +kernel
theorem dX8_mean_17 : decode cX8_mean 17 = .ok (.iconst 0, 1) := by decide +kernel
theorem dX8_mean_18 : decode cX8_mean 18 = .ok (.istore_n 2, 1) := by decide +kernel
theorem dX8_mean_19 : decode cX8_mean 19 = .ok (.iconst 0, 1) := by decide +kernel
theorem dX8_mean_20 : decode cX8_mean 20 = .ok (.istore_n 3, 1) := by decide +kernel
theorem dX8_mean_21 : decode cX8_mean 21 = .ok (.iload_n 3, 1) := by decide +kernel
theorem dX8_mean_22 : decode cX8_mean 22 = .ok (.iload_n 1, 1) := by decide +kernel
theorem dX8_mean_23 : decode cX8_mean 23 = .ok (.if_icmp .ge 18, 3) := by decide +kernel
theorem dX8_mean_26 : decode cX8_mean 26 = .ok (.iload_n 2, 1) := by decide +kernel
theorem dX8_mean_27 : decode cX8_mean 27 = .ok (.aload_n 0, 1) := by decide +kernel
theorem dX8_mean_28 : decode cX8_mean 28 = .ok (.getfield 60, 3) := by decide +kernel
theorem dX8_mean_31 : decode cX8_mean 31 = .ok (.iload_n 3, 1) := by decide +kernel
theorem dX8_mean_32 : decode cX8_mean 32 = .ok (.iaload, 1) := by decide +kernel
theorem dX8_mean_33 : decode cX8_mean 33 = .ok (.iadd, 1) := by decide +kernel
theorem dX8_mean_34 : decode cX8_mean 34 = .ok (.istore_n 2, 1) := by decide +kernel
theorem dX8_mean_35 : decode cX8_mean 35 = .ok (.iinc 3 1, 3) := by decide +kernel
theorem dX8_mean_38 : decode cX8_mean 38 = .ok (.goto (-17), 3) := by decide +kernel
theorem dX8_mean_41 : decode cX8_mean 41 = .ok (.iload_n 1, 1) := by decide +kernel
theorem dX8_mean_42 : decode cX8_mean 42 = .ok (.ifCond .ne 8, 3) := by decide +kernel
theorem dX8_mean_45 : decode cX8_mean 45 = .ok (.ldc 152, 2) := by decide +kernel
theorem dX8_mean_47 : decode cX8_mean 47 = .ok (.goto 6, 3) := by decide +kernel
theorem dX8_mean_50 : decode cX8_mean 50 = .ok (.iload_n 2, 1) := by decide +kernel
theorem dX8_mean_51 : decode cX8_mean 51 = .ok (.iload_n 1, 1) := by decide +kernel
theorem dX8_mean_52 : decode cX8_mean 52 = .ok (.idiv, 1) := by decide +kernel
theorem dX8_mean_53 : decode cX8_mean 53 = .ok (.ireturn, 1) := by decide +kernel
theorem dX8_chooses_0 : decode cX8_chooses 0 = .ok (.aload_n 0, 1) := by decide +kernel
theorem dX8_chooses_1 : decode cX8_chooses 1 = .ok (.invokevirtual 135, 3) := by decide +kernel
theorem dX8_chooses_4 : decode cX8_chooses 4 = .ok (.istore_n 3, 1) := by decide +kernel
theorem dX8_chooses_5 : decode cX8_chooses 5 = .ok (.iconst 0, 1) := by decide +kernel
theorem dX8_chooses_6 : decode cX8_chooses 6 = .ok (.istore 4, 2) := by decide +kernel
theorem dX8_chooses_8 : decode cX8_chooses 8 = .ok (.iload_n 3, 1) := by decide +kernel
theorem dX8_chooses_9 : decode cX8_chooses 9 = .ok (.ifCond .le 86, 3) := by decide +kernel
theorem dX8_chooses_12 : decode cX8_chooses 12 = .ok (.iload 4, 2) := by decide +kernel
theorem dX8_chooses_14 : decode cX8_chooses 14 = .ok (.ifCond .ne 81, 3) := by decide +kernel
theorem dX8_chooses_17 : decode cX8_chooses 17 = .ok (.aload_n 0, 1) := by decide +kernel
theorem dX8_chooses_18 : decode cX8_chooses 18 = .ok (.iload_n 3, 1) := by decide +kernel
theorem dX8_chooses_19 : decode cX8_chooses 19 = .ok (.invokevirtual 143, 3) := by decide +kernel
theorem dX8_chooses_22 : decode cX8_chooses 22 = .ok (.istore 5, 2) := by decide +kernel
theorem dX8_chooses_24 : decode cX8_chooses 24 = .ok (.iload_n 1, 1) := by decide +kernel
theorem dX8_chooses_25 : decode cX8_chooses 25 = .ok (.ifCond .ne 21, 3) := by decide +kernel
theorem dX8_chooses_28 : decode cX8_chooses 28 = .ok (.aload_n 0, 1) := by decide +kernel
theorem dX8_chooses_29 : decode cX8_chooses 29 = .ok (.getfield 16, 3) := by decide +kernel
theorem dX8_chooses_32 : decode cX8_chooses 32 = .ok (.iload_n 3, 1) := by decide +kernel
theorem dX8_chooses_33 : decode cX8_chooses 33 = .ok (.iaload, 1) := by decide +kernel
theorem dX8_chooses_34 : decode cX8_chooses 34 = .ok (.iload_n 2, 1) := by decide +kernel
theorem dX8_chooses_35 : decode cX8_chooses 35 = .ok (.if_icmp .gt 7, 3) := by decide +kernel
theorem dX8_chooses_38 : decode cX8_chooses 38 = .ok (.iconst 1, 1) := by decide +kernel
theorem dX8_chooses_39 : decode cX8_chooses 39 = .ok (.goto 38, 3) := by decide +kernel
theorem dX8_chooses_42 : decode cX8_chooses 42 = .ok (.iconst 0, 1) := by decide +kernel
theorem dX8_chooses_43 : decode cX8_chooses 43 = .ok (.goto 34, 3) := by decide +kernel
theorem dX8_chooses_46 : decode cX8_chooses 46 = .ok (.iload 5, 2) := by decide +kernel
theorem dX8_chooses_48 : decode cX8_chooses 48 = .ok (.iconst (-1), 1) := by decide +kernel
theorem dX8_chooses_49 : decode cX8_chooses 49 = .ok (.if_icmp .eq 27, 3) := by decide +kernel
theorem dX8_chooses_52 : decode cX8_chooses 52 = .ok (.iload 5, 2) := by decide +kernel
theorem dX8_chooses_54 : decode cX8_chooses 54 = .ok (.iload_n 2, 1) := by decide +kernel
theorem dX8_chooses_55 : decode cX8_chooses 55 = .ok (.if_icmp .gt 21, 3) := by decide +kernel
theorem dX8_chooses_58 : decode cX8_chooses 58 = .ok (.iload_n 1, 1) := by decide +kernel
theorem dX8_chooses_59 : decode cX8_chooses 59 = .ok (.iconst 1, 1) := by decide +kernel
theorem dX8_chooses_60 : decode cX8_chooses 60 = .ok (.if_icmp .eq 12, 3) := by decide +kernel
theorem dX8_chooses_63 : decode cX8_chooses 63 = .ok (.iload 5, 2) := by decide +kernel
theorem dX8_chooses_65 : decode cX8_chooses 65 = .ok (.aload_n 0, 1) := by decide +kernel
theorem dX8_chooses_66 : decode cX8_chooses 66 = .ok (.invokevirtual 170, 3) := by decide +kernel
theorem dX8_chooses_69 : decode cX8_chooses 69 = .ok (.if_icmp .gt 7, 3) := by decide +kernel
theorem dX8_chooses_72 : decode cX8_chooses 72 = .ok (.iconst 1, 1) := by decide +kernel
theorem dX8_chooses_73 : decode cX8_chooses 73 = .ok (.goto 4, 3) := by decide +kernel
theorem dX8_chooses_76 : decode cX8_chooses 76 = .ok (.iconst 0, 1) := by decide +kernel
theorem dX8_chooses_77 : decode cX8_chooses 77 = .ok (.istore 4, 2) := by decide +kernel
theorem dX8_chooses_79 : decode cX8_chooses 79 = .ok (.iload_n 3, 1) := by decide +kernel
theorem dX8_chooses_80 : decode cX8_chooses 80 = .ok (.iload 4, 2) := by decide +kernel
theorem dX8_chooses_82 : decode cX8_chooses 82 = .ok (.ifCond .eq 7, 3) := by decide +kernel
theorem dX8_chooses_85 : decode cX8_chooses 85 = .ok (.iconst 0, 1) := by decide +kernel
theorem dX8_chooses_86 : decode cX8_chooses 86 = .ok (.goto 4, 3) := by decide +kernel
theorem dX8_chooses_89 : decode cX8_chooses 89 = .ok (.iconst 1, 1) := by decide +kernel
theorem dX8_chooses_90 : decode cX8_chooses 90 = .ok (.isub, 1) := by decide +kernel
theorem dX8_chooses_91 : decode cX8_chooses 91 = .ok (.istore_n 3, 1) := by decide +kernel
theorem dX8_chooses_92 : decode cX8_chooses 92 = .ok (.goto (-84), 3) := by decide +kernel
theorem dX8_chooses_95 : decode cX8_chooses 95 = .ok (.iload_n 3, 1) := by decide +kernel
theorem dX8_chooses_96 : decode cX8_chooses 96 = .ok (.ireturn, 1) := by decide +kernel
theorem dX8_governs_0 : decode cX8_governs 0 = .ok (.aload_n 0, 1) := by decide +kernel
theorem dX8_governs_1 : decode cX8_governs 1 = .ok (.aload_n 0, 1) := by decide +kernel
theorem dX8_governs_2 : decode cX8_governs 2 = .ok (.getfield 57, 3) := by decide +kernel
theorem dX8_governs_5 : decode cX8_governs 5 = .ok (.aload_n 0, 1) := by decide +kernel
theorem dX8_governs_6 : decode cX8_governs 6 = .ok (.invokevirtual 153, 3) := by decide +kernel
theorem dX8_governs_9 : decode cX8_governs 9 = .ok (.aload_n 0, 1) := by decide +kernel
theorem dX8_governs_10 : decode cX8_governs 10 = .ok (.getfield 97, 3) := by decide +kernel
theorem dX8_governs_13 : decode cX8_governs 13 = .ok (.isub, 1) := by decide +kernel
theorem dX8_governs_14 : decode cX8_governs 14 = .ok (.invokevirtual 173, 3) := by decide +kernel
theorem dX8_governs_17 : decode cX8_governs 17 = .ok (.istore_n 1, 1) := by decide +kernel
theorem dX8_governs_18 : decode cX8_governs 18 = .ok (.iload_n 1, 1) := by decide +kernel
theorem dX8_governs_19 : decode cX8_governs 19 = .ok (.ifCond .le 37, 3) := by decide +kernel
theorem dX8_governs_22 : decode cX8_governs 22 = .ok (.aload_n 0, 1) := by decide +kernel
theorem dX8_governs_23 : decode cX8_governs 23 = .ok (.aload_n 0, 1) := by decide +kernel
theorem dX8_governs_24 : decode cX8_governs 24 = .ok (.getfield 13, 3) := by decide +kernel
theorem dX8_governs_27 : decode cX8_governs 27 = .ok (.iload_n 1, 1) := by decide +kernel
theorem dX8_governs_28 : decode cX8_governs 28 = .ok (.iaload, 1) := by decide +kernel
theorem dX8_governs_29 : decode cX8_governs 29 = .ok (.i2l, 1) := by decide +kernel
theorem dX8_governs_30 : decode cX8_governs 30 = .ok (.invokevirtual 106, 3) := by decide +kernel
theorem dX8_governs_33 : decode cX8_governs 33 = .ok (.aload_n 0, 1) := by decide +kernel
theorem dX8_governs_34 : decode cX8_governs 34 = .ok (.iload_n 1, 1) := by decide +kernel
theorem dX8_governs_35 : decode cX8_governs 35 = .ok (.putfield 103, 3) := by decide +kernel
theorem dX8_governs_38 : decode cX8_governs 38 = .ok (.aload_n 0, 1) := by decide +kernel
theorem dX8_governs_39 : decode cX8_governs 39 = .ok (.aload_n 0, 1) := by decide +kernel
theorem dX8_governs_40 : decode cX8_governs 40 = .ok (.getfield 97, 3) := by decide +kernel
theorem dX8_governs_43 : decode cX8_governs 43 = .ok (.putfield 100, 3) := by decide +kernel
theorem dX8_governs_46 : decode cX8_governs 46 = .ok (.aload_n 0, 1) := by decide +kernel
theorem dX8_governs_47 : decode cX8_governs 47 = .ok (.dup, 1) := by decide +kernel
theorem dX8_governs_48 : decode cX8_governs 48 = .ok (.getfield 177, 3) := by decide +kernel
theorem dX8_governs_51 : decode cX8_governs 51 = .ok (.iconst 1, 1) := by decide +kernel
theorem dX8_governs_52 : decode cX8_governs 52 = .ok (.iadd, 1) := by decide +kernel
theorem dX8_governs_53 : decode cX8_governs 53 = .ok (.putfield 177, 3) := by decide +kernel
theorem dX8_governs_56 : decode cX8_governs 56 = .ok (.return_, 1) := by decide +kernel
theorem dX8_down_0 : decode cX8_down 0 = .ok (.iload_n 0, 1) := by decide +kernel
theorem dX8_down_1 : decode cX8_down 1 = .ok (.ifCond .lt 9, 3) := by decide +kernel
theorem dX8_down_4 : decode cX8_down 4 = .ok (.iload_n 0, 1) := by decide +kernel
theorem dX8_down_5 : decode cX8_down 5 = .ok (.iload_n 1, 1) := by decide +kernel
theorem dX8_down_6 : decode cX8_down 6 = .ok (.idiv, 1) := by decide +kernel
theorem dX8_down_7 : decode cX8_down 7 = .ok (.goto 11, 3) := by decide +kernel
theorem dX8_down_10 : decode cX8_down 10 = .ok (.iload_n 1, 1) := by decide +kernel
theorem dX8_down_11 : decode cX8_down 11 = .ok (.iconst 1, 1) := by decide +kernel
theorem dX8_down_12 : decode cX8_down 12 = .ok (.isub, 1) := by decide +kernel
theorem dX8_down_13 : decode cX8_down 13 = .ok (.iload_n 0, 1) := by decide +kernel
theorem dX8_down_14 : decode cX8_down 14 = .ok (.isub, 1) := by decide +kernel
theorem dX8_down_15 : decode cX8_down 15 = .ok (.iload_n 1, 1) := by decide +kernel
theorem dX8_down_16 : decode cX8_down 16 = .ok (.idiv, 1) := by decide +kernel
theorem dX8_down_17 : decode cX8_down 17 = .ok (.ineg, 1) := by decide +kernel
theorem dX8_down_18 : decode cX8_down 18 = .ok (.ireturn, 1) := by decide +kernel
theorem dX8_battery_0 : decode cX8_battery 0 = .ok (.aload_n 0, 1) := by decide +kernel
theorem dX8_battery_1 : decode cX8_battery 1 = .ok (.getfield 70, 3) := by decide +kernel
theorem dX8_battery_4 : decode cX8_battery 4 = .ok (.aload_n 0, 1) := by decide +kernel
theorem dX8_battery_5 : decode cX8_battery 5 = .ok (.getfield 66, 3) := by decide +kernel
theorem dX8_battery_8 : decode cX8_battery 8 = .ok (.aload_n 0, 1) := by decide +kernel
theorem dX8_battery_9 : decode cX8_battery 9 = .ok (.getfield 97, 3) := by decide +kernel
theorem dX8_battery_12 : decode cX8_battery 12 = .ok (.bipush 60, 2) := by decide +kernel
theorem dX8_battery_14 : decode cX8_battery 14 = .ok (.idiv, 1) := by decide +kernel
theorem dX8_battery_15 : decode cX8_battery 15 = .ok (.bipush 24, 2) := by decide +kernel
theorem dX8_battery_17 : decode cX8_battery 17 = .ok (.irem, 1) := by decide +kernel
theorem dX8_battery_18 : decode cX8_battery 18 = .ok (.iaload, 1) := by decide +kernel
theorem dX8_battery_19 : decode cX8_battery 19 = .ok (.iadd, 1) := by decide +kernel
theorem dX8_battery_20 : decode cX8_battery 20 = .ok (.i2l, 1) := by decide +kernel
theorem dX8_battery_21 : decode cX8_battery 21 = .ok (.aload_n 0, 1) := by decide +kernel
theorem dX8_battery_22 : decode cX8_battery 22 = .ok (.getfield 91, 3) := by decide +kernel
theorem dX8_battery_25 : decode cX8_battery 25 = .ok (.lsub, 1) := by decide +kernel
theorem dX8_battery_26 : decode cX8_battery 26 = .ok (.lstore_n 1, 1) := by decide +kernel
theorem dX8_battery_27 : decode cX8_battery 27 = .ok (.aload_n 0, 1) := by decide +kernel
theorem dX8_battery_28 : decode cX8_battery 28 = .ok (.lconst 0, 1) := by decide +kernel
theorem dX8_battery_29 : decode cX8_battery 29 = .ok (.putfield 91, 3) := by decide +kernel
theorem dX8_battery_32 : decode cX8_battery 32 = .ok (.aload_n 0, 1) := by decide +kernel
theorem dX8_battery_33 : decode cX8_battery 33 = .ok (.dup, 1) := by decide +kernel
theorem dX8_battery_34 : decode cX8_battery 34 = .ok (.getfield 180, 3) := by decide +kernel
theorem dX8_battery_37 : decode cX8_battery 37 = .ok (.lload_n 1, 1) := by decide +kernel
theorem dX8_battery_38 : decode cX8_battery 38 = .ok (.lconst 0, 1) := by decide +kernel
theorem dX8_battery_39 : decode cX8_battery 39 = .ok (.lcmp, 1) := by decide +kernel
theorem dX8_battery_40 : decode cX8_battery 40 = .ok (.ifCond .ge 7, 3) := by decide +kernel
theorem dX8_battery_43 : decode cX8_battery 43 = .ok (.iconst 1, 1) := by decide +kernel
theorem dX8_battery_44 : decode cX8_battery 44 = .ok (.goto 4, 3) := by decide +kernel
theorem dX8_battery_47 : decode cX8_battery 47 = .ok (.iconst 0, 1) := by decide +kernel
theorem dX8_battery_48 : decode cX8_battery 48 = .ok (.iadd, 1) := by decide +kernel
theorem dX8_battery_49 : decode cX8_battery 49 = .ok (.putfield 180, 3) := by decide +kernel
theorem dX8_battery_52 : decode cX8_battery 52 = .ok (.aload_n 0, 1) := by decide +kernel
theorem dX8_battery_53 : decode cX8_battery 53 = .ok (.lload_n 1, 1) := by decide +kernel
theorem dX8_battery_54 : decode cX8_battery 54 = .ok (.lconst 0, 1) := by decide +kernel
theorem dX8_battery_55 : decode cX8_battery 55 = .ok (.lcmp, 1) := by decide +kernel
theorem dX8_battery_56 : decode cX8_battery 56 = .ok (.ifCond .ge 7, 3) := by decide +kernel
theorem dX8_battery_59 : decode cX8_battery 59 = .ok (.iconst 0, 1) := by decide +kernel
theorem dX8_battery_60 : decode cX8_battery 60 = .ok (.goto 18, 3) := by decide +kernel
theorem dX8_battery_63 : decode cX8_battery 63 = .ok (.lload_n 1, 1) := by decide +kernel
theorem dX8_battery_64 : decode cX8_battery 64 = .ok (.ldc2_w 183, 3) := by decide +kernel
theorem dX8_battery_67 : decode cX8_battery 67 = .ok (.lcmp, 1) := by decide +kernel
theorem dX8_battery_68 : decode cX8_battery 68 = .ok (.ifCond .le 8, 3) := by decide +kernel
theorem dX8_battery_71 : decode cX8_battery 71 = .ok (.ldc 69, 2) := by decide +kernel
theorem dX8_battery_73 : decode cX8_battery 73 = .ok (.goto 5, 3) := by decide +kernel
theorem dX8_battery_76 : decode cX8_battery 76 = .ok (.lload_n 1, 1) := by decide +kernel
theorem dX8_battery_77 : decode cX8_battery 77 = .ok (.l2i, 1) := by decide +kernel
theorem dX8_battery_78 : decode cX8_battery 78 = .ok (.putfield 70, 3) := by decide +kernel
theorem dX8_battery_81 : decode cX8_battery 81 = .ok (.aload_n 0, 1) := by decide +kernel
theorem dX8_battery_82 : decode cX8_battery 82 = .ok (.getfield 74, 3) := by decide +kernel
theorem dX8_battery_85 : decode cX8_battery 85 = .ok (.iconst 2, 1) := by decide +kernel
theorem dX8_battery_86 : decode cX8_battery 86 = .ok (.idiv, 1) := by decide +kernel
theorem dX8_battery_87 : decode cX8_battery 87 = .ok (.aload_n 0, 1) := by decide +kernel
theorem dX8_battery_88 : decode cX8_battery 88 = .ok (.getfield 70, 3) := by decide +kernel
theorem dX8_battery_91 : decode cX8_battery 91 = .ok (.isub, 1) := by decide +kernel
theorem dX8_battery_92 : decode cX8_battery 92 = .ok (.bipush 16, 2) := by decide +kernel
theorem dX8_battery_94 : decode cX8_battery 94 = .ok (.invokestatic 185, 3) := by decide +kernel
theorem dX8_battery_97 : decode cX8_battery 97 = .ok (.istore_n 3, 1) := by decide +kernel
theorem dX8_battery_98 : decode cX8_battery 98 = .ok (.iload_n 3, 1) := by decide +kernel
theorem dX8_battery_99 : decode cX8_battery 99 = .ok (.ifCond .le 46, 3) := by decide +kernel
theorem dX8_battery_102 : decode cX8_battery 102 = .ok (.iload_n 3, 1) := by decide +kernel
theorem dX8_battery_103 : decode cX8_battery 103 = .ok (.aload_n 0, 1) := by decide +kernel
theorem dX8_battery_104 : decode cX8_battery 104 = .ok (.getfield 74, 3) := by decide +kernel
theorem dX8_battery_107 : decode cX8_battery 107 = .ok (.if_icmp .le 10, 3) := by decide +kernel
theorem dX8_battery_110 : decode cX8_battery 110 = .ok (.aload_n 0, 1) := by decide +kernel
theorem dX8_battery_111 : decode cX8_battery 111 = .ok (.getfield 74, 3) := by decide +kernel
theorem dX8_battery_114 : decode cX8_battery 114 = .ok (.goto 4, 3) := by decide +kernel
theorem dX8_battery_117 : decode cX8_battery 117 = .ok (.iload_n 3, 1) := by decide +kernel
theorem dX8_battery_118 : decode cX8_battery 118 = .ok (.istore_n 3, 1) := by decide +kernel
theorem dX8_battery_119 : decode cX8_battery 119 = .ok (.iload_n 3, 1) := by decide +kernel
theorem dX8_battery_120 : decode cX8_battery 120 = .ok (.ldc 69, 2) := by decide +kernel
theorem dX8_battery_122 : decode cX8_battery 122 = .ok (.aload_n 0, 1) := by decide +kernel
theorem dX8_battery_123 : decode cX8_battery 123 = .ok (.getfield 70, 3) := by decide +kernel
theorem dX8_battery_126 : decode cX8_battery 126 = .ok (.isub, 1) := by decide +kernel
theorem dX8_battery_127 : decode cX8_battery 127 = .ok (.if_icmp .le 13, 3) := by decide +kernel
theorem dX8_battery_130 : decode cX8_battery 130 = .ok (.ldc 69, 2) := by decide +kernel
theorem dX8_battery_132 : decode cX8_battery 132 = .ok (.aload_n 0, 1) := by decide +kernel
theorem dX8_battery_133 : decode cX8_battery 133 = .ok (.getfield 70, 3) := by decide +kernel
theorem dX8_battery_136 : decode cX8_battery 136 = .ok (.isub, 1) := by decide +kernel
theorem dX8_battery_137 : decode cX8_battery 137 = .ok (.goto 4, 3) := by decide +kernel
theorem dX8_battery_140 : decode cX8_battery 140 = .ok (.iload_n 3, 1) := by decide +kernel
theorem dX8_battery_141 : decode cX8_battery 141 = .ok (.istore_n 3, 1) := by decide +kernel
theorem dX8_battery_142 : decode cX8_battery 142 = .ok (.goto 46, 3) := by decide +kernel
theorem dX8_battery_145 : decode cX8_battery 145 = .ok (.iload_n 3, 1) := by decide +kernel
theorem dX8_battery_146 : decode cX8_battery 146 = .ok (.ineg, 1) := by decide +kernel
theorem dX8_battery_147 : decode cX8_battery 147 = .ok (.aload_n 0, 1) := by decide +kernel
theorem dX8_battery_148 : decode cX8_battery 148 = .ok (.getfield 70, 3) := by decide +kernel
theorem dX8_battery_151 : decode cX8_battery 151 = .ok (.if_icmp .le 11, 3) := by decide +kernel
theorem dX8_battery_154 : decode cX8_battery 154 = .ok (.aload_n 0, 1) := by decide +kernel
theorem dX8_battery_155 : decode cX8_battery 155 = .ok (.getfield 70, 3) := by decide +kernel
theorem dX8_battery_158 : decode cX8_battery 158 = .ok (.ineg, 1) := by decide +kernel
theorem dX8_battery_159 : decode cX8_battery 159 = .ok (.goto 4, 3) := by decide +kernel
theorem dX8_battery_162 : decode cX8_battery 162 = .ok (.iload_n 3, 1) := by decide +kernel
theorem dX8_battery_163 : decode cX8_battery 163 = .ok (.istore_n 3, 1) := by decide +kernel
theorem dX8_battery_164 : decode cX8_battery 164 = .ok (.iload_n 3, 1) := by decide +kernel
theorem dX8_battery_165 : decode cX8_battery 165 = .ok (.ineg, 1) := by decide +kernel
theorem dX8_battery_166 : decode cX8_battery 166 = .ok (.ldc 73, 2) := by decide +kernel
theorem dX8_battery_168 : decode cX8_battery 168 = .ok (.aload_n 0, 1) := by decide +kernel
theorem dX8_battery_169 : decode cX8_battery 169 = .ok (.getfield 74, 3) := by decide +kernel
theorem dX8_battery_172 : decode cX8_battery 172 = .ok (.isub, 1) := by decide +kernel
theorem dX8_battery_173 : decode cX8_battery 173 = .ok (.if_icmp .le 13, 3) := by decide +kernel
theorem dX8_battery_176 : decode cX8_battery 176 = .ok (.aload_n 0, 1) := by decide +kernel
theorem dX8_battery_177 : decode cX8_battery 177 = .ok (.getfield 74, 3) := by decide +kernel
theorem dX8_battery_180 : decode cX8_battery 180 = .ok (.ldc 73, 2) := by decide +kernel
theorem dX8_battery_182 : decode cX8_battery 182 = .ok (.isub, 1) := by decide +kernel
theorem dX8_battery_183 : decode cX8_battery 183 = .ok (.goto 4, 3) := by decide +kernel
theorem dX8_battery_186 : decode cX8_battery 186 = .ok (.iload_n 3, 1) := by decide +kernel
theorem dX8_battery_187 : decode cX8_battery 187 = .ok (.istore_n 3, 1) := by decide +kernel
theorem dX8_battery_188 : decode cX8_battery 188 = .ok (.aload_n 0, 1) := by decide +kernel
theorem dX8_battery_189 : decode cX8_battery 189 = .ok (.dup, 1) := by decide +kernel
theorem dX8_battery_190 : decode cX8_battery 190 = .ok (.getfield 70, 3) := by decide +kernel
theorem dX8_battery_193 : decode cX8_battery 193 = .ok (.iload_n 3, 1) := by decide +kernel
theorem dX8_battery_194 : decode cX8_battery 194 = .ok (.iadd, 1) := by decide +kernel
theorem dX8_battery_195 : decode cX8_battery 195 = .ok (.putfield 70, 3) := by decide +kernel
theorem dX8_battery_198 : decode cX8_battery 198 = .ok (.aload_n 0, 1) := by decide +kernel
theorem dX8_battery_199 : decode cX8_battery 199 = .ok (.dup, 1) := by decide +kernel
theorem dX8_battery_200 : decode cX8_battery 200 = .ok (.getfield 74, 3) := by decide +kernel
theorem dX8_battery_203 : decode cX8_battery 203 = .ok (.iload_n 3, 1) := by decide +kernel
theorem dX8_battery_204 : decode cX8_battery 204 = .ok (.isub, 1) := by decide +kernel
theorem dX8_battery_205 : decode cX8_battery 205 = .ok (.putfield 74, 3) := by decide +kernel
theorem dX8_battery_208 : decode cX8_battery 208 = .ok (.return_, 1) := by decide +kernel
theorem dX8_playsOne_0 : decode cX8_playsOne 0 = .ok (.aload_n 0, 1) := by decide +kernel
theorem dX8_playsOne_1 : decode cX8_playsOne 1 = .ok (.invokevirtual 188, 3) := by decide +kernel
theorem dX8_playsOne_4 : decode cX8_playsOne 4 = .ok (.aload_n 0, 1) := by decide +kernel
theorem dX8_playsOne_5 : decode cX8_playsOne 5 = .ok (.getfield 103, 3) := by decide +kernel
theorem dX8_playsOne_8 : decode cX8_playsOne 8 = .ok (.ifCond .ne 11, 3) := by decide +kernel
theorem dX8_playsOne_11 : decode cX8_playsOne 11 = .ok (.aload_n 0, 1) := by decide +kernel
theorem dX8_playsOne_12 : decode cX8_playsOne 12 = .ok (.invokevirtual 191, 3) := by decide +kernel
theorem dX8_playsOne_15 : decode cX8_playsOne 15 = .ok (.aload_n 0, 1) := by decide +kernel
theorem dX8_playsOne_16 : decode cX8_playsOne 16 = .ok (.invokevirtual 194, 3) := by decide +kernel
theorem dX8_playsOne_19 : decode cX8_playsOne 19 = .ok (.aload_n 0, 1) := by decide +kernel
theorem dX8_playsOne_20 : decode cX8_playsOne 20 = .ok (.aload_n 0, 1) := by decide +kernel
theorem dX8_playsOne_21 : decode cX8_playsOne 21 = .ok (.getfield 103, 3) := by decide +kernel
theorem dX8_playsOne_24 : decode cX8_playsOne 24 = .ok (.ifCond .le 37, 3) := by decide +kernel
theorem dX8_playsOne_27 : decode cX8_playsOne 27 = .ok (.aload_n 0, 1) := by decide +kernel
theorem dX8_playsOne_28 : decode cX8_playsOne 28 = .ok (.invokevirtual 153, 3) := by decide +kernel
theorem dX8_playsOne_31 : decode cX8_playsOne 31 = .ok (.aload_n 0, 1) := by decide +kernel
theorem dX8_playsOne_32 : decode cX8_playsOne 32 = .ok (.getfield 97, 3) := by decide +kernel
theorem dX8_playsOne_35 : decode cX8_playsOne 35 = .ok (.isub, 1) := by decide +kernel
theorem dX8_playsOne_36 : decode cX8_playsOne 36 = .ok (.aload_n 0, 1) := by decide +kernel
theorem dX8_playsOne_37 : decode cX8_playsOne 37 = .ok (.getfield 16, 3) := by decide +kernel
theorem dX8_playsOne_40 : decode cX8_playsOne 40 = .ok (.aload_n 0, 1) := by decide +kernel
theorem dX8_playsOne_41 : decode cX8_playsOne 41 = .ok (.getfield 103, 3) := by decide +kernel
theorem dX8_playsOne_44 : decode cX8_playsOne 44 = .ok (.iaload, 1) := by decide +kernel
theorem dX8_playsOne_45 : decode cX8_playsOne 45 = .ok (.if_icmp .le 16, 3) := by decide +kernel
theorem dX8_playsOne_48 : decode cX8_playsOne 48 = .ok (.aload_n 0, 1) := by decide +kernel
theorem dX8_playsOne_49 : decode cX8_playsOne 49 = .ok (.getfield 7, 3) := by decide +kernel
theorem dX8_playsOne_52 : decode cX8_playsOne 52 = .ok (.aload_n 0, 1) := by decide +kernel
theorem dX8_playsOne_53 : decode cX8_playsOne 53 = .ok (.getfield 103, 3) := by decide +kernel
theorem dX8_playsOne_56 : decode cX8_playsOne 56 = .ok (.iaload, 1) := by decide +kernel
theorem dX8_playsOne_57 : decode cX8_playsOne 57 = .ok (.i2l, 1) := by decide +kernel
theorem dX8_playsOne_58 : decode cX8_playsOne 58 = .ok (.goto 10, 3) := by decide +kernel
theorem dX8_playsOne_61 : decode cX8_playsOne 61 = .ok (.aload_n 0, 1) := by decide +kernel
theorem dX8_playsOne_62 : decode cX8_playsOne 62 = .ok (.getfield 7, 3) := by decide +kernel
theorem dX8_playsOne_65 : decode cX8_playsOne 65 = .ok (.iconst 0, 1) := by decide +kernel
theorem dX8_playsOne_66 : decode cX8_playsOne 66 = .ok (.iaload, 1) := by decide +kernel
theorem dX8_playsOne_67 : decode cX8_playsOne 67 = .ok (.i2l, 1) := by decide +kernel
theorem dX8_playsOne_68 : decode cX8_playsOne 68 = .ok (.invokevirtual 106, 3) := by decide +kernel
theorem dX8_playsOne_71 : decode cX8_playsOne 71 = .ok (.aload_n 0, 1) := by decide +kernel
theorem dX8_playsOne_72 : decode cX8_playsOne 72 = .ok (.getfield 63, 3) := by decide +kernel
theorem dX8_playsOne_75 : decode cX8_playsOne 75 = .ok (.aload_n 0, 1) := by decide +kernel
theorem dX8_playsOne_76 : decode cX8_playsOne 76 = .ok (.getfield 103, 3) := by decide +kernel
theorem dX8_playsOne_79 : decode cX8_playsOne 79 = .ok (.dup2, 1) := by decide +kernel
theorem dX8_playsOne_80 : decode cX8_playsOne 80 = .ok (.iaload, 1) := by decide +kernel
theorem dX8_playsOne_81 : decode cX8_playsOne 81 = .ok (.iconst 1, 1) := by decide +kernel
theorem dX8_playsOne_82 : decode cX8_playsOne 82 = .ok (.iadd, 1) := by decide +kernel
theorem dX8_playsOne_83 : decode cX8_playsOne 83 = .ok (.iastore, 1) := by decide +kernel
theorem dX8_playsOne_84 : decode cX8_playsOne 84 = .ok (.aload_n 0, 1) := by decide +kernel
theorem dX8_playsOne_85 : decode cX8_playsOne 85 = .ok (.invokevirtual 197, 3) := by decide +kernel
theorem dX8_playsOne_88 : decode cX8_playsOne 88 = .ok (.aload_n 0, 1) := by decide +kernel
theorem dX8_playsOne_89 : decode cX8_playsOne 89 = .ok (.dup, 1) := by decide +kernel
theorem dX8_playsOne_90 : decode cX8_playsOne 90 = .ok (.getfield 97, 3) := by decide +kernel
theorem dX8_playsOne_93 : decode cX8_playsOne 93 = .ok (.iconst 1, 1) := by decide +kernel
theorem dX8_playsOne_94 : decode cX8_playsOne 94 = .ok (.iadd, 1) := by decide +kernel
theorem dX8_playsOne_95 : decode cX8_playsOne 95 = .ok (.putfield 97, 3) := by decide +kernel
theorem dX8_playsOne_98 : decode cX8_playsOne 98 = .ok (.return_, 1) := by decide +kernel
theorem dX8_play_0 : decode cX8_play 0 = .ok (.aload_n 0, 1) := by decide +kernel
theorem dX8_play_1 : decode cX8_play 1 = .ok (.iload_n 1, 1) := by decide +kernel
theorem dX8_play_2 : decode cX8_play 2 = .ok (.iconst 1, 1) := by decide +kernel
theorem dX8_play_3 : decode cX8_play 3 = .ok (.sipush 200, 3) := by decide +kernel
theorem dX8_play_6 : decode cX8_play 6 = .ok (.invokestatic 113, 3) := by decide +kernel
theorem dX8_play_9 : decode cX8_play 9 = .ok (.invokevirtual 117, 3) := by decide +kernel
theorem dX8_play_12 : decode cX8_play 12 = .ok (.ifCond .ne 5, 3) := by decide +kernel
theorem dX8_play_15 : decode cX8_play 15 = .ok (.iconst 0, 1) := by decide +kernel
theorem dX8_play_16 : decode cX8_play 16 = .ok (.ireturn, 1) := by decide +kernel
theorem dX8_play_17 : decode cX8_play 17 = .ok (.iconst 0, 1) := by decide +kernel
theorem dX8_play_18 : decode cX8_play 18 = .ok (.istore_n 2, 1) := by decide +kernel
theorem dX8_play_19 : decode cX8_play 19 = .ok (.iload_n 2, 1) := by decide +kernel
theorem dX8_play_20 : decode cX8_play 20 = .ok (.iload_n 1, 1) := by decide +kernel
theorem dX8_play_21 : decode cX8_play 21 = .ok (.if_icmp .ge 13, 3) := by decide +kernel
theorem dX8_play_24 : decode cX8_play 24 = .ok (.aload_n 0, 1) := by decide +kernel
theorem dX8_play_25 : decode cX8_play 25 = .ok (.invokevirtual 200, 3) := by decide +kernel
theorem dX8_play_28 : decode cX8_play 28 = .ok (.iinc 2 1, 3) := by decide +kernel
theorem dX8_play_31 : decode cX8_play 31 = .ok (.goto (-12), 3) := by decide +kernel
theorem dX8_play_34 : decode cX8_play 34 = .ok (.aload_n 0, 1) := by decide +kernel
theorem dX8_play_35 : decode cX8_play 35 = .ok (.getfield 97, 3) := by decide +kernel
theorem dX8_play_38 : decode cX8_play 38 = .ok (.ireturn, 1) := by decide +kernel
theorem dX8_now_0 : decode cX8_now 0 = .ok (.aload_n 0, 1) := by decide +kernel
theorem dX8_now_1 : decode cX8_now 1 = .ok (.iconst 0, 1) := by decide +kernel
theorem dX8_now_2 : decode cX8_now 2 = .ok (.putfield 84, 3) := by decide +kernel
theorem dX8_now_5 : decode cX8_now 5 = .ok (.aload_n 0, 1) := by decide +kernel
theorem dX8_now_6 : decode cX8_now 6 = .ok (.getfield 97, 3) := by decide +kernel
theorem dX8_now_9 : decode cX8_now 9 = .ok (.ireturn, 1) := by decide +kernel
theorem dX8_state_0 : decode cX8_state 0 = .ok (.aload_n 0, 1) := by decide +kernel
theorem dX8_state_1 : decode cX8_state 1 = .ok (.iconst 0, 1) := by decide +kernel
theorem dX8_state_2 : decode cX8_state 2 = .ok (.putfield 84, 3) := by decide +kernel
theorem dX8_state_5 : decode cX8_state 5 = .ok (.aload_n 0, 1) := by decide +kernel
theorem dX8_state_6 : decode cX8_state 6 = .ok (.getfield 103, 3) := by decide +kernel
theorem dX8_state_9 : decode cX8_state 9 = .ok (.ireturn, 1) := by decide +kernel
theorem dX8_spent_0 : decode cX8_spent 0 = .ok (.aload_n 0, 1) := by decide +kernel
theorem dX8_spent_1 : decode cX8_spent 1 = .ok (.iconst 0, 1) := by decide +kernel
theorem dX8_spent_2 : decode cX8_spent 2 = .ok (.putfield 84, 3) := by decide +kernel
theorem dX8_spent_5 : decode cX8_spent 5 = .ok (.aload_n 0, 1) := by decide +kernel
theorem dX8_spent_6 : decode cX8_spent 6 = .ok (.getfield 87, 3) := by decide +kernel
theorem dX8_spent_9 : decode cX8_spent 9 = .ok (.lreturn, 1) := by decide +kernel
theorem dX8_ticksIn_0 : decode cX8_ticksIn 0 = .ok (.aload_n 0, 1) := by decide +kernel
theorem dX8_ticksIn_1 : decode cX8_ticksIn 1 = .ok (.iload_n 1, 1) := by decide +kernel
theorem dX8_ticksIn_2 : decode cX8_ticksIn 2 = .ok (.iconst 0, 1) := by decide +kernel
theorem dX8_ticksIn_3 : decode cX8_ticksIn 3 = .ok (.iconst 3, 1) := by decide +kernel
theorem dX8_ticksIn_4 : decode cX8_ticksIn 4 = .ok (.invokestatic 113, 3) := by decide +kernel
theorem dX8_ticksIn_7 : decode cX8_ticksIn 7 = .ok (.invokevirtual 117, 3) := by decide +kernel
theorem dX8_ticksIn_10 : decode cX8_ticksIn 10 = .ok (.ifCond .eq 12, 3) := by decide +kernel
theorem dX8_ticksIn_13 : decode cX8_ticksIn 13 = .ok (.aload_n 0, 1) := by decide +kernel
theorem dX8_ticksIn_14 : decode cX8_ticksIn 14 = .ok (.getfield 63, 3) := by decide +kernel
theorem dX8_ticksIn_17 : decode cX8_ticksIn 17 = .ok (.iload_n 1, 1) := by decide +kernel
theorem dX8_ticksIn_18 : decode cX8_ticksIn 18 = .ok (.iaload, 1) := by decide +kernel
theorem dX8_ticksIn_19 : decode cX8_ticksIn 19 = .ok (.goto 4, 3) := by decide +kernel
theorem dX8_ticksIn_22 : decode cX8_ticksIn 22 = .ok (.iconst 0, 1) := by decide +kernel
theorem dX8_ticksIn_23 : decode cX8_ticksIn 23 = .ok (.ireturn, 1) := by decide +kernel
theorem dX8_sleeps_0 : decode cX8_sleeps 0 = .ok (.aload_n 0, 1) := by decide +kernel
theorem dX8_sleeps_1 : decode cX8_sleeps 1 = .ok (.iconst 0, 1) := by decide +kernel
theorem dX8_sleeps_2 : decode cX8_sleeps 2 = .ok (.putfield 84, 3) := by decide +kernel
theorem dX8_sleeps_5 : decode cX8_sleeps 5 = .ok (.aload_n 0, 1) := by decide +kernel
theorem dX8_sleeps_6 : decode cX8_sleeps 6 = .ok (.getfield 177, 3) := by decide +kernel
theorem dX8_sleeps_9 : decode cX8_sleeps 9 = .ok (.ireturn, 1) := by decide +kernel
theorem dX8_lateness_0 : decode cX8_lateness 0 = .ok (.aload_n 0, 1) := by decide +kernel
theorem dX8_lateness_1 : decode cX8_lateness 1 = .ok (.iconst 0, 1) := by decide +kernel
theorem dX8_lateness_2 : decode cX8_lateness 2 = .ok (.putfield 84, 3) := by decide +kernel
theorem dX8_lateness_5 : decode cX8_lateness 5 = .ok (.aload_n 0, 1) := by decide +kernel
theorem dX8_lateness_6 : decode cX8_lateness 6 = .ok (.getfield 160, 3) := by decide +kernel
theorem dX8_lateness_9 : decode cX8_lateness 9 = .ok (.ireturn, 1) := by decide +kernel
theorem dX8_served_0 : decode cX8_served 0 = .ok (.aload_n 0, 1) := by decide +kernel
theorem dX8_served_1 : decode cX8_served 1 = .ok (.iconst 0, 1) := by decide +kernel
theorem dX8_served_2 : decode cX8_served 2 = .ok (.putfield 84, 3) := by decide +kernel
theorem dX8_served_5 : decode cX8_served 5 = .ok (.aload_n 0, 1) := by decide +kernel
theorem dX8_served_6 : decode cX8_served 6 = .ok (.getfield 163, 3) := by decide +kernel
theorem dX8_served_9 : decode cX8_served 9 = .ok (.ireturn, 1) := by decide +kernel
theorem dX8_setHarvest_0 : decode cX8_setHarvest 0 = .ok (.aload_n 0, 1) := by decide +kernel
theorem dX8_setHarvest_1 : decode cX8_setHarvest 1 = .ok (.iload_n 1, 1) := by decide +kernel
theorem dX8_setHarvest_2 : decode cX8_setHarvest 2 = .ok (.iconst 0, 1) := by decide +kernel
theorem dX8_setHarvest_3 : decode cX8_setHarvest 3 = .ok (.bipush 23, 2) := by decide +kernel
theorem dX8_setHarvest_5 : decode cX8_setHarvest 5 = .ok (.invokestatic 113, 3) := by decide +kernel
theorem dX8_setHarvest_8 : decode cX8_setHarvest 8 = .ok (.ifCond .eq 18, 3) := by decide +kernel
theorem dX8_setHarvest_11 : decode cX8_setHarvest 11 = .ok (.iload_n 2, 1) := by decide +kernel
theorem dX8_setHarvest_12 : decode cX8_setHarvest 12 = .ok (.iconst 0, 1) := by decide +kernel
theorem dX8_setHarvest_13 : decode cX8_setHarvest 13 = .ok (.sipush 1000, 3) := by decide +kernel
theorem dX8_setHarvest_16 : decode cX8_setHarvest 16 = .ok (.invokestatic 113, 3) := by decide +kernel
theorem dX8_setHarvest_19 : decode cX8_setHarvest 19 = .ok (.ifCond .eq 7, 3) := by decide +kernel
theorem dX8_setHarvest_22 : decode cX8_setHarvest 22 = .ok (.iconst 1, 1) := by decide +kernel
theorem dX8_setHarvest_23 : decode cX8_setHarvest 23 = .ok (.goto 4, 3) := by decide +kernel
theorem dX8_setHarvest_26 : decode cX8_setHarvest 26 = .ok (.iconst 0, 1) := by decide +kernel
theorem dX8_setHarvest_27 : decode cX8_setHarvest 27 = .ok (.invokevirtual 117, 3) := by decide +kernel
theorem dX8_setHarvest_30 : decode cX8_setHarvest 30 = .ok (.ifCond .ne 5, 3) := by decide +kernel
theorem dX8_setHarvest_33 : decode cX8_setHarvest 33 = .ok (.iconst 0, 1) := by decide +kernel
theorem dX8_setHarvest_34 : decode cX8_setHarvest 34 = .ok (.ireturn, 1) := by decide +kernel
theorem dX8_setHarvest_35 : decode cX8_setHarvest 35 = .ok (.aload_n 0, 1) := by decide +kernel
theorem dX8_setHarvest_36 : decode cX8_setHarvest 36 = .ok (.getfield 66, 3) := by decide +kernel
theorem dX8_setHarvest_39 : decode cX8_setHarvest 39 = .ok (.iload_n 1, 1) := by decide +kernel
theorem dX8_setHarvest_40 : decode cX8_setHarvest 40 = .ok (.iaload, 1) := by decide +kernel
theorem dX8_setHarvest_41 : decode cX8_setHarvest 41 = .ok (.istore_n 3, 1) := by decide +kernel
theorem dX8_setHarvest_42 : decode cX8_setHarvest 42 = .ok (.aload_n 0, 1) := by decide +kernel
theorem dX8_setHarvest_43 : decode cX8_setHarvest 43 = .ok (.getfield 66, 3) := by decide +kernel
theorem dX8_setHarvest_46 : decode cX8_setHarvest 46 = .ok (.iload_n 1, 1) := by decide +kernel
theorem dX8_setHarvest_47 : decode cX8_setHarvest 47 = .ok (.iload_n 2, 1) := by decide +kernel
theorem dX8_setHarvest_48 : decode cX8_setHarvest 48 = .ok (.iastore, 1) := by decide +kernel
theorem dX8_setHarvest_49 : decode cX8_setHarvest 49 = .ok (.iload_n 3, 1) := by decide +kernel
theorem dX8_setHarvest_50 : decode cX8_setHarvest 50 = .ok (.ireturn, 1) := by decide +kernel
theorem dX8_available_0 : decode cX8_available 0 = .ok (.aload_n 0, 1) := by decide +kernel
theorem dX8_available_1 : decode cX8_available 1 = .ok (.iconst 0, 1) := by decide +kernel
theorem dX8_available_2 : decode cX8_available 2 = .ok (.putfield 84, 3) := by decide +kernel
theorem dX8_available_5 : decode cX8_available 5 = .ok (.aload_n 0, 1) := by decide +kernel
theorem dX8_available_6 : decode cX8_available 6 = .ok (.getfield 70, 3) := by decide +kernel
theorem dX8_available_9 : decode cX8_available 9 = .ok (.ireturn, 1) := by decide +kernel
theorem dX8_bound_0 : decode cX8_bound 0 = .ok (.aload_n 0, 1) := by decide +kernel
theorem dX8_bound_1 : decode cX8_bound 1 = .ok (.iconst 0, 1) := by decide +kernel
theorem dX8_bound_2 : decode cX8_bound 2 = .ok (.putfield 84, 3) := by decide +kernel
theorem dX8_bound_5 : decode cX8_bound 5 = .ok (.aload_n 0, 1) := by decide +kernel
theorem dX8_bound_6 : decode cX8_bound 6 = .ok (.getfield 74, 3) := by decide +kernel
theorem dX8_bound_9 : decode cX8_bound 9 = .ok (.ireturn, 1) := by decide +kernel
theorem dX8_shortTicks_0 : decode cX8_shortTicks 0 = .ok (.aload_n 0, 1) := by decide +kernel
theorem dX8_shortTicks_1 : decode cX8_shortTicks 1 = .ok (.iconst 0, 1) := by decide +kernel
theorem dX8_shortTicks_2 : decode cX8_shortTicks 2 = .ok (.putfield 84, 3) := by decide +kernel
theorem dX8_shortTicks_5 : decode cX8_shortTicks 5 = .ok (.aload_n 0, 1) := by decide +kernel
theorem dX8_shortTicks_6 : decode cX8_shortTicks 6 = .ok (.getfield 180, 3) := by decide +kernel
theorem dX8_shortTicks_9 : decode cX8_shortTicks 9 = .ok (.ireturn, 1) := by decide +kernel
theorem dX8_isReach_0 : decode cX8_isReach 0 = .ok (.iload_n 1, 1) := by decide +kernel
theorem dX8_isReach_1 : decode cX8_isReach 1 = .ok (.aload_n 0, 1) := by decide +kernel
theorem dX8_isReach_2 : decode cX8_isReach 2 = .ok (.getfield 97, 3) := by decide +kernel
theorem dX8_isReach_5 : decode cX8_isReach 5 = .ok (.if_icmp .lt 19, 3) := by decide +kernel
theorem dX8_isReach_8 : decode cX8_isReach 8 = .ok (.iload_n 1, 1) := by decide +kernel
theorem dX8_isReach_9 : decode cX8_isReach 9 = .ok (.aload_n 0, 1) := by decide +kernel
theorem dX8_isReach_10 : decode cX8_isReach 10 = .ok (.getfield 97, 3) := by decide +kernel
theorem dX8_isReach_13 : decode cX8_isReach 13 = .ok (.sipush 400, 3) := by decide +kernel
theorem dX8_isReach_16 : decode cX8_isReach 16 = .ok (.iadd, 1) := by decide +kernel
theorem dX8_isReach_17 : decode cX8_isReach 17 = .ok (.if_icmp .gt 7, 3) := by decide +kernel
theorem dX8_isReach_20 : decode cX8_isReach 20 = .ok (.iconst 1, 1) := by decide +kernel
theorem dX8_isReach_21 : decode cX8_isReach 21 = .ok (.goto 4, 3) := by decide +kernel
theorem dX8_isReach_24 : decode cX8_isReach 24 = .ok (.iconst 0, 1) := by decide +kernel
theorem dX8_isReach_25 : decode cX8_isReach 25 = .ok (.ireturn, 1) := by decide +kernel
theorem dX8_nextPlanned_0 : decode cX8_nextPlanned 0 = .ok (.iload_n 2, 1) := by decide +kernel
theorem dX8_nextPlanned_1 : decode cX8_nextPlanned 1 = .ok (.istore_n 3, 1) := by decide +kernel
theorem dX8_nextPlanned_2 : decode cX8_nextPlanned 2 = .ok (.iconst 0, 1) := by decide +kernel
theorem dX8_nextPlanned_3 : decode cX8_nextPlanned 3 = .ok (.istore 4, 2) := by decide +kernel
theorem dX8_nextPlanned_5 : decode cX8_nextPlanned 5 = .ok (.iload 4, 2) := by decide +kernel
theorem dX8_nextPlanned_7 : decode cX8_nextPlanned 7 = .ok (.aload_n 0, 1) := by decide +kernel
theorem dX8_nextPlanned_8 : decode cX8_nextPlanned 8 = .ok (.getfield 146, 3) := by decide +kernel
theorem dX8_nextPlanned_11 : decode cX8_nextPlanned 11 = .ok (.if_icmp .ge 43, 3) := by decide +kernel
theorem dX8_nextPlanned_14 : decode cX8_nextPlanned 14 = .ok (.aload_n 0, 1) := by decide +kernel
theorem dX8_nextPlanned_15 : decode cX8_nextPlanned 15 = .ok (.getfield 42, 3) := by decide +kernel
theorem dX8_nextPlanned_18 : decode cX8_nextPlanned 18 = .ok (.iload 4, 2) := by decide +kernel
theorem dX8_nextPlanned_20 : decode cX8_nextPlanned 20 = .ok (.iaload, 1) := by decide +kernel
theorem dX8_nextPlanned_21 : decode cX8_nextPlanned 21 = .ok (.iload_n 1, 1) := by decide +kernel
theorem dX8_nextPlanned_22 : decode cX8_nextPlanned 22 = .ok (.if_icmp .le 24, 3) := by decide +kernel
theorem dX8_nextPlanned_25 : decode cX8_nextPlanned 25 = .ok (.aload_n 0, 1) := by decide +kernel
theorem dX8_nextPlanned_26 : decode cX8_nextPlanned 26 = .ok (.getfield 45, 3) := by decide +kernel
theorem dX8_nextPlanned_29 : decode cX8_nextPlanned 29 = .ok (.iload 4, 2) := by decide +kernel
theorem dX8_nextPlanned_31 : decode cX8_nextPlanned 31 = .ok (.iaload, 1) := by decide +kernel
theorem dX8_nextPlanned_32 : decode cX8_nextPlanned 32 = .ok (.iload_n 3, 1) := by decide +kernel
theorem dX8_nextPlanned_33 : decode cX8_nextPlanned 33 = .ok (.if_icmp .ge 13, 3) := by decide +kernel
theorem dX8_nextPlanned_36 : decode cX8_nextPlanned 36 = .ok (.aload_n 0, 1) := by decide +kernel
theorem dX8_nextPlanned_37 : decode cX8_nextPlanned 37 = .ok (.getfield 45, 3) := by decide +kernel
theorem dX8_nextPlanned_40 : decode cX8_nextPlanned 40 = .ok (.iload 4, 2) := by decide +kernel
theorem dX8_nextPlanned_42 : decode cX8_nextPlanned 42 = .ok (.iaload, 1) := by decide +kernel
theorem dX8_nextPlanned_43 : decode cX8_nextPlanned 43 = .ok (.goto 4, 3) := by decide +kernel
theorem dX8_nextPlanned_46 : decode cX8_nextPlanned 46 = .ok (.iload_n 3, 1) := by decide +kernel
theorem dX8_nextPlanned_47 : decode cX8_nextPlanned 47 = .ok (.istore_n 3, 1) := by decide +kernel
theorem dX8_nextPlanned_48 : decode cX8_nextPlanned 48 = .ok (.iinc 4 1, 3) := by decide +kernel
theorem dX8_nextPlanned_51 : decode cX8_nextPlanned 51 = .ok (.goto (-46), 3) := by decide +kernel
theorem dX8_nextPlanned_54 : decode cX8_nextPlanned 54 = .ok (.iload_n 3, 1) := by decide +kernel
theorem dX8_nextPlanned_55 : decode cX8_nextPlanned 55 = .ok (.ireturn, 1) := by decide +kernel
theorem dX8_wakeups_0 : decode cX8_wakeups 0 = .ok (.iconst 0, 1) := by decide +kernel
theorem dX8_wakeups_1 : decode cX8_wakeups 1 = .ok (.istore_n 2, 1) := by decide +kernel
theorem dX8_wakeups_2 : decode cX8_wakeups 2 = .ok (.aload_n 0, 1) := by decide +kernel
theorem dX8_wakeups_3 : decode cX8_wakeups 3 = .ok (.iconst (-1), 1) := by decide +kernel
theorem dX8_wakeups_4 : decode cX8_wakeups 4 = .ok (.iload_n 1, 1) := by decide +kernel
theorem dX8_wakeups_5 : decode cX8_wakeups 5 = .ok (.invokevirtual 203, 3) := by decide +kernel
theorem dX8_wakeups_8 : decode cX8_wakeups 8 = .ok (.istore_n 3, 1) := by decide +kernel
theorem dX8_wakeups_9 : decode cX8_wakeups 9 = .ok (.iload_n 3, 1) := by decide +kernel
theorem dX8_wakeups_10 : decode cX8_wakeups 10 = .ok (.iload_n 1, 1) := by decide +kernel
theorem dX8_wakeups_11 : decode cX8_wakeups 11 = .ok (.if_icmp .ge 16, 3) := by decide +kernel
theorem dX8_wakeups_14 : decode cX8_wakeups 14 = .ok (.iinc 2 1, 3) := by decide +kernel
theorem dX8_wakeups_17 : decode cX8_wakeups 17 = .ok (.aload_n 0, 1) := by decide +kernel
theorem dX8_wakeups_18 : decode cX8_wakeups 18 = .ok (.iload_n 3, 1) := by decide +kernel
theorem dX8_wakeups_19 : decode cX8_wakeups 19 = .ok (.iload_n 1, 1) := by decide +kernel
theorem dX8_wakeups_20 : decode cX8_wakeups 20 = .ok (.invokevirtual 203, 3) := by decide +kernel
theorem dX8_wakeups_23 : decode cX8_wakeups 23 = .ok (.istore_n 3, 1) := by decide +kernel
theorem dX8_wakeups_24 : decode cX8_wakeups 24 = .ok (.goto (-15), 3) := by decide +kernel
theorem dX8_wakeups_27 : decode cX8_wakeups 27 = .ok (.iload_n 2, 1) := by decide +kernel
theorem dX8_wakeups_28 : decode cX8_wakeups 28 = .ok (.ireturn, 1) := by decide +kernel
theorem dX8_plannedWakeups_0 : decode cX8_plannedWakeups 0 = .ok (.aload_n 0, 1) := by decide +kernel
theorem dX8_plannedWakeups_1 : decode cX8_plannedWakeups 1 = .ok (.aload_n 0, 1) := by decide +kernel
theorem dX8_plannedWakeups_2 : decode cX8_plannedWakeups 2 = .ok (.iload_n 1, 1) := by decide +kernel
theorem dX8_plannedWakeups_3 : decode cX8_plannedWakeups 3 = .ok (.invokevirtual 206, 3) := by decide +kernel
theorem dX8_plannedWakeups_6 : decode cX8_plannedWakeups 6 = .ok (.invokevirtual 117, 3) := by decide +kernel
theorem dX8_plannedWakeups_9 : decode cX8_plannedWakeups 9 = .ok (.ifCond .eq 11, 3) := by decide +kernel
theorem dX8_plannedWakeups_12 : decode cX8_plannedWakeups 12 = .ok (.aload_n 0, 1) := by decide +kernel
theorem dX8_plannedWakeups_13 : decode cX8_plannedWakeups 13 = .ok (.iload_n 1, 1) := by decide +kernel
theorem dX8_plannedWakeups_14 : decode cX8_plannedWakeups 14 = .ok (.invokevirtual 209, 3) := by decide +kernel
theorem dX8_plannedWakeups_17 : decode cX8_plannedWakeups 17 = .ok (.goto 4, 3) := by decide +kernel
theorem dX8_plannedWakeups_20 : decode cX8_plannedWakeups 20 = .ok (.iconst 0, 1) := by decide +kernel
theorem dX8_plannedWakeups_21 : decode cX8_plannedWakeups 21 = .ok (.ireturn, 1) := by decide +kernel
theorem dX8_fewestWakeups_0 : decode cX8_fewestWakeups 0 = .ok (.aload_n 0, 1) := by decide +kernel
theorem dX8_fewestWakeups_1 : decode cX8_fewestWakeups 1 = .ok (.aload_n 0, 1) := by decide +kernel
theorem dX8_fewestWakeups_2 : decode cX8_fewestWakeups 2 = .ok (.iload_n 1, 1) := by decide +kernel
theorem dX8_fewestWakeups_3 : decode cX8_fewestWakeups 3 = .ok (.invokevirtual 206, 3) := by decide +kernel
theorem dX8_fewestWakeups_6 : decode cX8_fewestWakeups 6 = .ok (.invokevirtual 117, 3) := by decide +kernel
theorem dX8_fewestWakeups_9 : decode cX8_fewestWakeups 9 = .ok (.ifCond .eq 11, 3) := by decide +kernel
theorem dX8_fewestWakeups_12 : decode cX8_fewestWakeups 12 = .ok (.aload_n 0, 1) := by decide +kernel
theorem dX8_fewestWakeups_13 : decode cX8_fewestWakeups 13 = .ok (.iload_n 1, 1) := by decide +kernel
theorem dX8_fewestWakeups_14 : decode cX8_fewestWakeups 14 = .ok (.invokevirtual 209, 3) := by decide +kernel
theorem dX8_fewestWakeups_17 : decode cX8_fewestWakeups 17 = .ok (.goto 4, 3) := by decide +kernel
theorem dX8_fewestWakeups_20 : decode cX8_fewestWakeups 20 = .ok (.iconst 0, 1) := by decide +kernel
theorem dX8_fewestWakeups_21 : decode cX8_fewestWakeups 21 = .ok (.ireturn, 1) := by decide +kernel
theorem dX8_plannedCost_0 : decode cX8_plannedCost 0 = .ok (.aload_n 0, 1) := by decide +kernel
theorem dX8_plannedCost_1 : decode cX8_plannedCost 1 = .ok (.aload_n 0, 1) := by decide +kernel
theorem dX8_plannedCost_2 : decode cX8_plannedCost 2 = .ok (.iload_n 1, 1) := by decide +kernel
theorem dX8_plannedCost_3 : decode cX8_plannedCost 3 = .ok (.invokevirtual 206, 3) := by decide +kernel
theorem dX8_plannedCost_6 : decode cX8_plannedCost 6 = .ok (.invokevirtual 117, 3) := by decide +kernel
theorem dX8_plannedCost_9 : decode cX8_plannedCost 9 = .ok (.ifCond .ne 5, 3) := by decide +kernel
theorem dX8_plannedCost_12 : decode cX8_plannedCost 12 = .ok (.lconst 0, 1) := by decide +kernel
theorem dX8_plannedCost_13 : decode cX8_plannedCost 13 = .ok (.lreturn, 1) := by decide +kernel
theorem dX8_plannedCost_14 : decode cX8_plannedCost 14 = .ok (.lconst 0, 1) := by decide +kernel
theorem dX8_plannedCost_15 : decode cX8_plannedCost 15 = .ok (.lstore_n 2, 1) := by decide +kernel
theorem dX8_plannedCost_16 : decode cX8_plannedCost 16 = .ok (.aload_n 0, 1) := by decide +kernel
theorem dX8_plannedCost_17 : decode cX8_plannedCost 17 = .ok (.getfield 97, 3) := by decide +kernel
theorem dX8_plannedCost_20 : decode cX8_plannedCost 20 = .ok (.istore 4, 2) := by decide +kernel
theorem dX8_plannedCost_22 : decode cX8_plannedCost 22 = .ok (.aload_n 0, 1) := by decide +kernel
theorem dX8_plannedCost_23 : decode cX8_plannedCost 23 = .ok (.iconst (-1), 1) := by decide +kernel
theorem dX8_plannedCost_24 : decode cX8_plannedCost 24 = .ok (.iload_n 1, 1) := by decide +kernel
theorem dX8_plannedCost_25 : decode cX8_plannedCost 25 = .ok (.invokevirtual 203, 3) := by decide +kernel
theorem dX8_plannedCost_28 : decode cX8_plannedCost 28 = .ok (.istore 5, 2) := by decide +kernel
theorem dX8_plannedCost_30 : decode cX8_plannedCost 30 = .ok (.iconst 0, 1) := by decide +kernel
theorem dX8_plannedCost_31 : decode cX8_plannedCost 31 = .ok (.istore 6, 2) := by decide +kernel
theorem dX8_plannedCost_33 : decode cX8_plannedCost 33 = .ok (.iload 6, 2) := by decide +kernel
theorem dX8_plannedCost_35 : decode cX8_plannedCost 35 = .ok (.ifCond .ne 54, 3) := by decide +kernel
theorem dX8_plannedCost_38 : decode cX8_plannedCost 38 = .ok (.lload_n 2, 1) := by decide +kernel
theorem dX8_plannedCost_39 : decode cX8_plannedCost 39 = .ok (.aload_n 0, 1) := by decide +kernel
theorem dX8_plannedCost_40 : decode cX8_plannedCost 40 = .ok (.aload_n 0, 1) := by decide +kernel
theorem dX8_plannedCost_41 : decode cX8_plannedCost 41 = .ok (.iconst 1, 1) := by decide +kernel
theorem dX8_plannedCost_42 : decode cX8_plannedCost 42 = .ok (.iload 5, 2) := by decide +kernel
theorem dX8_plannedCost_44 : decode cX8_plannedCost 44 = .ok (.iload 4, 2) := by decide +kernel
theorem dX8_plannedCost_46 : decode cX8_plannedCost 46 = .ok (.isub, 1) := by decide +kernel
theorem dX8_plannedCost_47 : decode cX8_plannedCost 47 = .ok (.invokevirtual 173, 3) := by decide +kernel
theorem dX8_plannedCost_50 : decode cX8_plannedCost 50 = .ok (.iload 5, 2) := by decide +kernel
theorem dX8_plannedCost_52 : decode cX8_plannedCost 52 = .ok (.iload 4, 2) := by decide +kernel
theorem dX8_plannedCost_54 : decode cX8_plannedCost 54 = .ok (.isub, 1) := by decide +kernel
theorem dX8_plannedCost_55 : decode cX8_plannedCost 55 = .ok (.invokevirtual 139, 3) := by decide +kernel
theorem dX8_plannedCost_58 : decode cX8_plannedCost 58 = .ok (.ladd, 1) := by decide +kernel
theorem dX8_plannedCost_59 : decode cX8_plannedCost 59 = .ok (.lstore_n 2, 1) := by decide +kernel
theorem dX8_plannedCost_60 : decode cX8_plannedCost 60 = .ok (.iload 5, 2) := by decide +kernel
theorem dX8_plannedCost_62 : decode cX8_plannedCost 62 = .ok (.iload_n 1, 1) := by decide +kernel
theorem dX8_plannedCost_63 : decode cX8_plannedCost 63 = .ok (.if_icmp .ne 7, 3) := by decide +kernel
theorem dX8_plannedCost_66 : decode cX8_plannedCost 66 = .ok (.iconst 1, 1) := by decide +kernel
theorem dX8_plannedCost_67 : decode cX8_plannedCost 67 = .ok (.goto 4, 3) := by decide +kernel
theorem dX8_plannedCost_70 : decode cX8_plannedCost 70 = .ok (.iconst 0, 1) := by decide +kernel
theorem dX8_plannedCost_71 : decode cX8_plannedCost 71 = .ok (.istore 6, 2) := by decide +kernel
theorem dX8_plannedCost_73 : decode cX8_plannedCost 73 = .ok (.iload 5, 2) := by decide +kernel
theorem dX8_plannedCost_75 : decode cX8_plannedCost 75 = .ok (.istore 4, 2) := by decide +kernel
theorem dX8_plannedCost_77 : decode cX8_plannedCost 77 = .ok (.aload_n 0, 1) := by decide +kernel
theorem dX8_plannedCost_78 : decode cX8_plannedCost 78 = .ok (.iload 4, 2) := by decide +kernel
theorem dX8_plannedCost_80 : decode cX8_plannedCost 80 = .ok (.iload_n 1, 1) := by decide +kernel
theorem dX8_plannedCost_81 : decode cX8_plannedCost 81 = .ok (.invokevirtual 203, 3) := by decide +kernel
theorem dX8_plannedCost_84 : decode cX8_plannedCost 84 = .ok (.istore 5, 2) := by decide +kernel
theorem dX8_plannedCost_86 : decode cX8_plannedCost 86 = .ok (.goto (-53), 3) := by decide +kernel
theorem dX8_plannedCost_89 : decode cX8_plannedCost 89 = .ok (.lload_n 2, 1) := by decide +kernel
theorem dX8_plannedCost_90 : decode cX8_plannedCost 90 = .ok (.lreturn, 1) := by decide +kernel
theorem dX8_leastCost_0 : decode cX8_leastCost 0 = .ok (.aload_n 0, 1) := by decide +kernel
theorem dX8_leastCost_1 : decode cX8_leastCost 1 = .ok (.aload_n 0, 1) := by decide +kernel
theorem dX8_leastCost_2 : decode cX8_leastCost 2 = .ok (.iload_n 1, 1) := by decide +kernel
theorem dX8_leastCost_3 : decode cX8_leastCost 3 = .ok (.invokevirtual 206, 3) := by decide +kernel
theorem dX8_leastCost_6 : decode cX8_leastCost 6 = .ok (.invokevirtual 117, 3) := by decide +kernel
theorem dX8_leastCost_9 : decode cX8_leastCost 9 = .ok (.ifCond .ne 5, 3) := by decide +kernel
theorem dX8_leastCost_12 : decode cX8_leastCost 12 = .ok (.lconst 0, 1) := by decide +kernel
theorem dX8_leastCost_13 : decode cX8_leastCost 13 = .ok (.lreturn, 1) := by decide +kernel
theorem dX8_leastCost_14 : decode cX8_leastCost 14 = .ok (.aload_n 0, 1) := by decide +kernel
theorem dX8_leastCost_15 : decode cX8_leastCost 15 = .ok (.invokevirtual 135, 3) := by decide +kernel
theorem dX8_leastCost_18 : decode cX8_leastCost 18 = .ok (.istore_n 2, 1) := by decide +kernel
theorem dX8_leastCost_19 : decode cX8_leastCost 19 = .ok (.iload_n 1, 1) := by decide +kernel
theorem dX8_leastCost_20 : decode cX8_leastCost 20 = .ok (.aload_n 0, 1) := by decide +kernel
theorem dX8_leastCost_21 : decode cX8_leastCost 21 = .ok (.getfield 97, 3) := by decide +kernel
theorem dX8_leastCost_24 : decode cX8_leastCost 24 = .ok (.isub, 1) := by decide +kernel
theorem dX8_leastCost_25 : decode cX8_leastCost 25 = .ok (.istore_n 3, 1) := by decide +kernel
theorem dX8_leastCost_26 : decode cX8_leastCost 26 = .ok (.iconst 0, 1) := by decide +kernel
theorem dX8_leastCost_27 : decode cX8_leastCost 27 = .ok (.istore 4, 2) := by decide +kernel
theorem dX8_leastCost_29 : decode cX8_leastCost 29 = .ok (.iload 4, 2) := by decide +kernel
theorem dX8_leastCost_31 : decode cX8_leastCost 31 = .ok (.iload_n 3, 1) := by decide +kernel
theorem dX8_leastCost_32 : decode cX8_leastCost 32 = .ok (.if_icmp .gt 112, 3) := by decide +kernel
theorem dX8_leastCost_35 : decode cX8_leastCost 35 = .ok (.aload_n 0, 1) := by decide +kernel
theorem dX8_leastCost_36 : decode cX8_leastCost 36 = .ok (.getfield 81, 3) := by decide +kernel
theorem dX8_leastCost_39 : decode cX8_leastCost 39 = .ok (.iload 4, 2) := by decide +kernel
theorem dX8_leastCost_41 : decode cX8_leastCost 41 = .ok (.aload_n 0, 1) := by decide +kernel
theorem dX8_leastCost_42 : decode cX8_leastCost 42 = .ok (.iconst 0, 1) := by decide +kernel
theorem dX8_leastCost_43 : decode cX8_leastCost 43 = .ok (.iload 4, 2) := by decide +kernel
theorem dX8_leastCost_45 : decode cX8_leastCost 45 = .ok (.invokevirtual 139, 3) := by decide +kernel
theorem dX8_leastCost_48 : decode cX8_leastCost 48 = .ok (.lastore, 1) := by decide +kernel
theorem dX8_leastCost_49 : decode cX8_leastCost 49 = .ok (.iconst 1, 1) := by decide +kernel
theorem dX8_leastCost_50 : decode cX8_leastCost 50 = .ok (.istore 5, 2) := by decide +kernel
theorem dX8_leastCost_52 : decode cX8_leastCost 52 = .ok (.iload 5, 2) := by decide +kernel
theorem dX8_leastCost_54 : decode cX8_leastCost 54 = .ok (.iload_n 2, 1) := by decide +kernel
theorem dX8_leastCost_55 : decode cX8_leastCost 55 = .ok (.if_icmp .gt 73, 3) := by decide +kernel
theorem dX8_leastCost_58 : decode cX8_leastCost 58 = .ok (.aload_n 0, 1) := by decide +kernel
theorem dX8_leastCost_59 : decode cX8_leastCost 59 = .ok (.getfield 16, 3) := by decide +kernel
theorem dX8_leastCost_62 : decode cX8_leastCost 62 = .ok (.iload 5, 2) := by decide +kernel
theorem dX8_leastCost_64 : decode cX8_leastCost 64 = .ok (.iaload, 1) := by decide +kernel
theorem dX8_leastCost_65 : decode cX8_leastCost 65 = .ok (.iload 4, 2) := by decide +kernel
theorem dX8_leastCost_67 : decode cX8_leastCost 67 = .ok (.if_icmp .gt 14, 3) := by decide +kernel
theorem dX8_leastCost_70 : decode cX8_leastCost 70 = .ok (.aload_n 0, 1) := by decide +kernel
theorem dX8_leastCost_71 : decode cX8_leastCost 71 = .ok (.iload 5, 2) := by decide +kernel
theorem dX8_leastCost_73 : decode cX8_leastCost 73 = .ok (.iload 4, 2) := by decide +kernel
theorem dX8_leastCost_75 : decode cX8_leastCost 75 = .ok (.invokevirtual 139, 3) := by decide +kernel
theorem dX8_leastCost_78 : decode cX8_leastCost 78 = .ok (.goto 10, 3) := by decide +kernel
theorem dX8_leastCost_81 : decode cX8_leastCost 81 = .ok (.aload_n 0, 1) := by decide +kernel
theorem dX8_leastCost_82 : decode cX8_leastCost 82 = .ok (.getfield 81, 3) := by decide +kernel
theorem dX8_leastCost_85 : decode cX8_leastCost 85 = .ok (.iload 4, 2) := by decide +kernel
theorem dX8_leastCost_87 : decode cX8_leastCost 87 = .ok (.laload, 1) := by decide +kernel
theorem dX8_leastCost_88 : decode cX8_leastCost 88 = .ok (.lstore 6, 2) := by decide +kernel
theorem dX8_leastCost_90 : decode cX8_leastCost 90 = .ok (.aload_n 0, 1) := by decide +kernel
theorem dX8_leastCost_91 : decode cX8_leastCost 91 = .ok (.getfield 81, 3) := by decide +kernel
theorem dX8_leastCost_94 : decode cX8_leastCost 94 = .ok (.iload 4, 2) := by decide +kernel
theorem dX8_leastCost_96 : decode cX8_leastCost 96 = .ok (.lload 6, 2) := by decide +kernel
theorem dX8_leastCost_98 : decode cX8_leastCost 98 = .ok (.aload_n 0, 1) := by decide +kernel
theorem dX8_leastCost_99 : decode cX8_leastCost 99 = .ok (.getfield 81, 3) := by decide +kernel
theorem dX8_leastCost_102 : decode cX8_leastCost 102 = .ok (.iload 4, 2) := by decide +kernel
theorem dX8_leastCost_104 : decode cX8_leastCost 104 = .ok (.laload, 1) := by decide +kernel
theorem dX8_leastCost_105 : decode cX8_leastCost 105 = .ok (.lcmp, 1) := by decide +kernel
theorem dX8_leastCost_106 : decode cX8_leastCost 106 = .ok (.ifCond .ge 8, 3) := by decide +kernel
theorem dX8_leastCost_109 : decode cX8_leastCost 109 = .ok (.lload 6, 2) := by decide +kernel
theorem dX8_leastCost_111 : decode cX8_leastCost 111 = .ok (.goto 10, 3) := by decide +kernel
theorem dX8_leastCost_114 : decode cX8_leastCost 114 = .ok (.aload_n 0, 1) := by decide +kernel
theorem dX8_leastCost_115 : decode cX8_leastCost 115 = .ok (.getfield 81, 3) := by decide +kernel
theorem dX8_leastCost_118 : decode cX8_leastCost 118 = .ok (.iload 4, 2) := by decide +kernel
theorem dX8_leastCost_120 : decode cX8_leastCost 120 = .ok (.laload, 1) := by decide +kernel
theorem dX8_leastCost_121 : decode cX8_leastCost 121 = .ok (.lastore, 1) := by decide +kernel
theorem dX8_leastCost_122 : decode cX8_leastCost 122 = .ok (.iinc 5 1, 3) := by decide +kernel
theorem dX8_leastCost_125 : decode cX8_leastCost 125 = .ok (.goto (-73), 3) := by decide +kernel
theorem dX8_leastCost_128 : decode cX8_leastCost 128 = .ok (.aload_n 0, 1) := by decide +kernel
theorem dX8_leastCost_129 : decode cX8_leastCost 129 = .ok (.getfield 77, 3) := by decide +kernel
theorem dX8_leastCost_132 : decode cX8_leastCost 132 = .ok (.iload 4, 2) := by decide +kernel
theorem dX8_leastCost_134 : decode cX8_leastCost 134 = .ok (.ldc2_w 212, 3) := by decide +kernel
theorem dX8_leastCost_137 : decode cX8_leastCost 137 = .ok (.lastore, 1) := by decide +kernel
theorem dX8_leastCost_138 : decode cX8_leastCost 138 = .ok (.iinc 4 1, 3) := by decide +kernel
theorem dX8_leastCost_141 : decode cX8_leastCost 141 = .ok (.goto (-112), 3) := by decide +kernel
theorem dX8_leastCost_144 : decode cX8_leastCost 144 = .ok (.aload_n 0, 1) := by decide +kernel
theorem dX8_leastCost_145 : decode cX8_leastCost 145 = .ok (.getfield 77, 3) := by decide +kernel
theorem dX8_leastCost_148 : decode cX8_leastCost 148 = .ok (.iconst 0, 1) := by decide +kernel
theorem dX8_leastCost_149 : decode cX8_leastCost 149 = .ok (.lconst 0, 1) := by decide +kernel
theorem dX8_leastCost_150 : decode cX8_leastCost 150 = .ok (.lastore, 1) := by decide +kernel
theorem dX8_leastCost_151 : decode cX8_leastCost 151 = .ok (.iconst 0, 1) := by decide +kernel
theorem dX8_leastCost_152 : decode cX8_leastCost 152 = .ok (.istore 4, 2) := by decide +kernel
theorem dX8_leastCost_154 : decode cX8_leastCost 154 = .ok (.iload 4, 2) := by decide +kernel
theorem dX8_leastCost_156 : decode cX8_leastCost 156 = .ok (.iload_n 3, 1) := by decide +kernel
theorem dX8_leastCost_157 : decode cX8_leastCost 157 = .ok (.if_icmp .ge 127, 3) := by decide +kernel
theorem dX8_leastCost_160 : decode cX8_leastCost 160 = .ok (.aload_n 0, 1) := by decide +kernel
theorem dX8_leastCost_161 : decode cX8_leastCost 161 = .ok (.aload_n 0, 1) := by decide +kernel
theorem dX8_leastCost_162 : decode cX8_leastCost 162 = .ok (.getfield 97, 3) := by decide +kernel
theorem dX8_leastCost_165 : decode cX8_leastCost 165 = .ok (.iload 4, 2) := by decide +kernel
theorem dX8_leastCost_167 : decode cX8_leastCost 167 = .ok (.iadd, 1) := by decide +kernel
theorem dX8_leastCost_168 : decode cX8_leastCost 168 = .ok (.iload_n 1, 1) := by decide +kernel
theorem dX8_leastCost_169 : decode cX8_leastCost 169 = .ok (.invokevirtual 203, 3) := by decide +kernel
theorem dX8_leastCost_172 : decode cX8_leastCost 172 = .ok (.aload_n 0, 1) := by decide +kernel
theorem dX8_leastCost_173 : decode cX8_leastCost 173 = .ok (.getfield 97, 3) := by decide +kernel
theorem dX8_leastCost_176 : decode cX8_leastCost 176 = .ok (.isub, 1) := by decide +kernel
theorem dX8_leastCost_177 : decode cX8_leastCost 177 = .ok (.istore 5, 2) := by decide +kernel
theorem dX8_leastCost_179 : decode cX8_leastCost 179 = .ok (.iload 4, 2) := by decide +kernel
theorem dX8_leastCost_181 : decode cX8_leastCost 181 = .ok (.iconst 1, 1) := by decide +kernel
theorem dX8_leastCost_182 : decode cX8_leastCost 182 = .ok (.iadd, 1) := by decide +kernel
theorem dX8_leastCost_183 : decode cX8_leastCost 183 = .ok (.istore 6, 2) := by decide +kernel
theorem dX8_leastCost_185 : decode cX8_leastCost 185 = .ok (.iload 6, 2) := by decide +kernel
theorem dX8_leastCost_187 : decode cX8_leastCost 187 = .ok (.iload 5, 2) := by decide +kernel
theorem dX8_leastCost_189 : decode cX8_leastCost 189 = .ok (.if_icmp .gt 89, 3) := by decide +kernel
theorem dX8_leastCost_192 : decode cX8_leastCost 192 = .ok (.aload_n 0, 1) := by decide +kernel
theorem dX8_leastCost_193 : decode cX8_leastCost 193 = .ok (.getfield 77, 3) := by decide +kernel
theorem dX8_leastCost_196 : decode cX8_leastCost 196 = .ok (.iload 4, 2) := by decide +kernel
theorem dX8_leastCost_198 : decode cX8_leastCost 198 = .ok (.laload, 1) := by decide +kernel
theorem dX8_leastCost_199 : decode cX8_leastCost 199 = .ok (.ldc2_w 212, 3) := by decide +kernel
theorem dX8_leastCost_202 : decode cX8_leastCost 202 = .ok (.lcmp, 1) := by decide +kernel
theorem dX8_leastCost_203 : decode cX8_leastCost 203 = .ok (.ifCond .eq 75, 3) := by decide +kernel
theorem dX8_leastCost_206 : decode cX8_leastCost 206 = .ok (.aload_n 0, 1) := by decide +kernel
theorem dX8_leastCost_207 : decode cX8_leastCost 207 = .ok (.getfield 77, 3) := by decide +kernel
theorem dX8_leastCost_210 : decode cX8_leastCost 210 = .ok (.iload 4, 2) := by decide +kernel
theorem dX8_leastCost_212 : decode cX8_leastCost 212 = .ok (.laload, 1) := by decide +kernel
theorem dX8_leastCost_213 : decode cX8_leastCost 213 = .ok (.aload_n 0, 1) := by decide +kernel
theorem dX8_leastCost_214 : decode cX8_leastCost 214 = .ok (.getfield 81, 3) := by decide +kernel
theorem dX8_leastCost_217 : decode cX8_leastCost 217 = .ok (.iload 6, 2) := by decide +kernel
theorem dX8_leastCost_219 : decode cX8_leastCost 219 = .ok (.iload 4, 2) := by decide +kernel
theorem dX8_leastCost_221 : decode cX8_leastCost 221 = .ok (.isub, 1) := by decide +kernel
theorem dX8_leastCost_222 : decode cX8_leastCost 222 = .ok (.laload, 1) := by decide +kernel
theorem dX8_leastCost_223 : decode cX8_leastCost 223 = .ok (.ladd, 1) := by decide +kernel
theorem dX8_leastCost_224 : decode cX8_leastCost 224 = .ok (.lstore 7, 2) := by decide +kernel
theorem dX8_leastCost_226 : decode cX8_leastCost 226 = .ok (.aload_n 0, 1) := by decide +kernel
theorem dX8_leastCost_227 : decode cX8_leastCost 227 = .ok (.getfield 77, 3) := by decide +kernel
theorem dX8_leastCost_230 : decode cX8_leastCost 230 = .ok (.iload 6, 2) := by decide +kernel
theorem dX8_leastCost_232 : decode cX8_leastCost 232 = .ok (.aload_n 0, 1) := by decide +kernel
theorem dX8_leastCost_233 : decode cX8_leastCost 233 = .ok (.getfield 77, 3) := by decide +kernel
theorem dX8_leastCost_236 : decode cX8_leastCost 236 = .ok (.iload 6, 2) := by decide +kernel
theorem dX8_leastCost_238 : decode cX8_leastCost 238 = .ok (.laload, 1) := by decide +kernel
theorem dX8_leastCost_239 : decode cX8_leastCost 239 = .ok (.ldc2_w 212, 3) := by decide +kernel
theorem dX8_leastCost_242 : decode cX8_leastCost 242 = .ok (.lcmp, 1) := by decide +kernel
theorem dX8_leastCost_243 : decode cX8_leastCost 243 = .ok (.ifCond .eq 16, 3) := by decide +kernel
theorem dX8_leastCost_246 : decode cX8_leastCost 246 = .ok (.lload 7, 2) := by decide +kernel
theorem dX8_leastCost_248 : decode cX8_leastCost 248 = .ok (.aload_n 0, 1) := by decide +kernel
theorem dX8_leastCost_249 : decode cX8_leastCost 249 = .ok (.getfield 77, 3) := by decide +kernel
theorem dX8_leastCost_252 : decode cX8_leastCost 252 = .ok (.iload 6, 2) := by decide +kernel
theorem dX8_leastCost_254 : decode cX8_leastCost 254 = .ok (.laload, 1) := by decide +kernel
theorem dX8_leastCost_255 : decode cX8_leastCost 255 = .ok (.lcmp, 1) := by decide +kernel
theorem dX8_leastCost_256 : decode cX8_leastCost 256 = .ok (.ifCond .ge 8, 3) := by decide +kernel
theorem dX8_leastCost_259 : decode cX8_leastCost 259 = .ok (.lload 7, 2) := by decide +kernel
theorem dX8_leastCost_261 : decode cX8_leastCost 261 = .ok (.goto 10, 3) := by decide +kernel
theorem dX8_leastCost_264 : decode cX8_leastCost 264 = .ok (.aload_n 0, 1) := by decide +kernel
theorem dX8_leastCost_265 : decode cX8_leastCost 265 = .ok (.getfield 77, 3) := by decide +kernel
theorem dX8_leastCost_268 : decode cX8_leastCost 268 = .ok (.iload 6, 2) := by decide +kernel
theorem dX8_leastCost_270 : decode cX8_leastCost 270 = .ok (.laload, 1) := by decide +kernel
theorem dX8_leastCost_271 : decode cX8_leastCost 271 = .ok (.lastore, 1) := by decide +kernel
theorem dX8_leastCost_272 : decode cX8_leastCost 272 = .ok (.iinc 6 1, 3) := by decide +kernel
theorem dX8_leastCost_275 : decode cX8_leastCost 275 = .ok (.goto (-90), 3) := by decide +kernel
theorem dX8_leastCost_278 : decode cX8_leastCost 278 = .ok (.iinc 4 1, 3) := by decide +kernel
theorem dX8_leastCost_281 : decode cX8_leastCost 281 = .ok (.goto (-127), 3) := by decide +kernel
theorem dX8_leastCost_284 : decode cX8_leastCost 284 = .ok (.aload_n 0, 1) := by decide +kernel
theorem dX8_leastCost_285 : decode cX8_leastCost 285 = .ok (.getfield 77, 3) := by decide +kernel
theorem dX8_leastCost_288 : decode cX8_leastCost 288 = .ok (.iload_n 3, 1) := by decide +kernel
theorem dX8_leastCost_289 : decode cX8_leastCost 289 = .ok (.laload, 1) := by decide +kernel
theorem dX8_leastCost_290 : decode cX8_leastCost 290 = .ok (.lreturn, 1) := by decide +kernel
end
section
/-! whole numbers behind the machine's ints and longs; functions behind arrays -/
def iI (z : Int) : Int32 := Int32.ofInt z
def lI (z : Int) : Int64 := Int64.ofInt z
def aI (f : Int → Int) : Nat → Int32 := fun j => iI (f (j : Int))
def aL (f : Int → Int) : Nat → Int64 := fun j => lI (f (j : Int))
def uZ (f : Int → Int) (i v : Int) : Int → Int := fun j => if j = i then v else f j
def b2i (P : Prop) [Decidable P] : Int := if P then 1 else 0
theorem uZ_s (f : Int → Int) (i v : Int) : uZ f i v i = v := if_pos rfl
theorem uZ_n (f : Int → Int) {i j : Int} (v : Int) (h : j ≠ i) : uZ f i v j = f j := if_neg h
theorem b2i_t {P : Prop} [Decidable P] (h : P) : b2i P = 1 := if_pos h
theorem b2i_f {P : Prop} [Decidable P] (h : ¬ P) : b2i P = 0 := if_neg h
theorem b2i_r (P : Prop) [Decidable P] : -2147483648 ≤ b2i P ∧ b2i P ≤ 2147483647 := by unfold b2i; split <;> decide
theorem b2i_01 (P : Prop) [Decidable P] : b2i P = 0 ∨ b2i P = 1 := by unfold b2i; split <;> simp
theorem b2i_0 {P : Prop} [Decidable P] : b2i P = 0 ↔ ¬ P := by unfold b2i; split <;> simp_all
theorem b2i_n0 {P : Prop} [Decidable P] : ¬ b2i P = 0 ↔ P := by unfold b2i; split <;> simp_all
abbrev zR (z : Int) : Prop := -2147483648 ≤ z ∧ z ≤ 2147483647
abbrev zRL (z : Int) : Prop := -9223372036854775808 ≤ z ∧ z ≤ 9223372036854775807
theorem iI_add (a b : Int) : iI a + iI b = iI (a + b) := (Int32.ofInt_add a b).symm
theorem iI_sub (a b : Int) : iI a - iI b = iI (a - b) := (Int32.ofInt_sub a b).symm
theorem iI_mul (a b : Int) : iI a * iI b = iI (a * b) := (Int32.ofInt_mul a b).symm
theorem iI_neg (a : Int) : -iI a = iI (-a) := (Int32.ofInt_neg a).symm
theorem lI_add (a b : Int) : lI a + lI b = lI (a + b) := (Int64.ofInt_add a b).symm
theorem lI_sub (a b : Int) : lI a - lI b = lI (a - b) := (Int64.ofInt_sub a b).symm
theorem lI_mul (a b : Int) : lI a * lI b = lI (a * b) := (Int64.ofInt_mul a b).symm
theorem lI_neg (a : Int) : -lI a = lI (-a) := (Int64.ofInt_neg a).symm
theorem iI_t {z : Int} (h : zR z) : (iI z).toInt = z := Int32.toInt_ofInt_of_le (by omega) (by omega)
theorem lI_t {z : Int} (h : zRL z) : (lI z).toInt = z := Int64.toInt_ofInt_of_le (by omega) (by omega)
theorem iI_lt {a b : Int} (ha : zR a) (hb : zR b) : iI a < iI b ↔ a < b := by rw [Int32.lt_iff_toInt_lt, iI_t ha, iI_t hb]
theorem iI_le {a b : Int} (ha : zR a) (hb : zR b) : iI a ≤ iI b ↔ a ≤ b := by rw [Int32.le_iff_toInt_le, iI_t ha, iI_t hb]
theorem iI_eq {a b : Int} (ha : zR a) (hb : zR b) : iI a = iI b ↔ a = b := by rw [← Int32.toInt_inj, iI_t ha, iI_t hb]
theorem lI_lt {a b : Int} (ha : zRL a) (hb : zRL b) : lI a < lI b ↔ a < b := by rw [Int64.lt_iff_toInt_lt, lI_t ha, lI_t hb]
theorem lI_le {a b : Int} (ha : zRL a) (hb : zRL b) : lI a ≤ lI b ↔ a ≤ b := by rw [Int64.le_iff_toInt_le, lI_t ha, lI_t hb]
theorem lI_eq {a b : Int} (ha : zRL a) (hb : zRL b) : lI a = lI b ↔ a = b := by rw [← Int64.toInt_inj, lI_t ha, lI_t hb]
theorem iI_0 : iI 0 = 0 := rfl
theorem iI_of (x : Int32) : ∃ z : Int, x = iI z ∧ zR z := ⟨x.toInt, (Int32.ofInt_toInt x).symm, by have := x.le_toInt; omega, by have := x.toInt_lt; omega⟩
theorem iI_l {z : Int} (h : zR z) : (iI z).toInt64 = lI z := by
  show Int64.ofInt (iI z).toInt = lI z
  rw [iI_t h]
  rfl
theorem lI_i (z : Int) : (lI z).toInt32 = iI z := Int64.toInt32_ofInt
theorem iI_cl {z : Int} (h : zR z) : (iI z).toNatClampNeg = z.toNat := Int32.toNatClampNeg_ofInt_of_le (by omega) (by omega)
theorem iI_in {i : Int} {n : Nat} (h : 0 ≤ i ∧ i < n) (hn : n ≤ 2147483647) : vp_in (iI i) n := by
  have hr : zR i := by omega
  rintro (h1 | h1)
  · have := (iI_lt hr (by decide : zR 0)).mp h1
    omega
  · rw [iI_cl hr] at h1
    omega
theorem aI_at {f : Int → Int} {i : Int} (h : 0 ≤ i) (h2 : i ≤ 2147483647) : aI f (iI i).toNatClampNeg = iI (f i) := by
  rw [iI_cl (by omega)]
  show iI (f (i.toNat : Int)) = _
  rw [Int.toNat_of_nonneg h]
theorem aL_at {f : Int → Int} {i : Int} (h : 0 ≤ i) (h2 : i ≤ 2147483647) : aL f (iI i).toNatClampNeg = lI (f i) := by
  rw [iI_cl (by omega)]
  show lI (f (i.toNat : Int)) = _
  rw [Int.toNat_of_nonneg h]
theorem aI_up {f : Int → Int} {i v : Int} (h : 0 ≤ i) (h2 : i ≤ 2147483647) : upd (aI f) (iI i).toNatClampNeg (iI v) = aI (uZ f i v) := by
  funext j
  rw [iI_cl (by omega)]
  show (if j = i.toNat then iI v else iI (f j)) = iI (if (j : Int) = i then v else f j)
  by_cases e : j = i.toNat
  · rw [if_pos e, if_pos (by omega)]
  · rw [if_neg e, if_neg (by omega)]
theorem aL_up {f : Int → Int} {i v : Int} (h : 0 ≤ i) (h2 : i ≤ 2147483647) : vp_updL (aL f) (iI i).toNatClampNeg (lI v) = aL (uZ f i v) := by
  funext j
  rw [iI_cl (by omega)]
  show (if j = i.toNat then lI v else lI (f j)) = lI (if (j : Int) = i then v else f j)
  by_cases e : j = i.toNat
  · rw [if_pos e, if_pos (by omega)]
  · rw [if_neg e, if_neg (by omega)]
theorem aI_0 : (fun _ => 0 : Nat → Int32) = aI (fun _ => 0) := rfl
theorem aL_0 : (fun _ => 0 : Nat → Int64) = aL (fun _ => 0) := rfl
theorem vp_nb {v : Int} (h : v = 0 ∨ v = 1) : vp_nar .boolean (iI v) = iI v := by rcases h with rfl | rfl <;> rfl
theorem nr_b {v : Int} (h : v = 0 ∨ v = 1) : narrow .boolean (.int (iI v)) = .int (iI v) := by rcases h with rfl | rfl <;> rfl
theorem iI_tdiv {a b : Int} (ha : zR a) (hb : zR b) (h : a ≠ -2147483648 ∨ b ≠ -1) : iI a / iI b = iI (a.tdiv b) := by
  apply Int32.toInt_inj.mp
  rcases h with h | h
  · rw [Int32.toInt_div_of_ne_left _ _ (fun e => h (by have e2 := congrArg Int32.toInt e; rw [iI_t ha] at e2; exact e2)), iI_t ha, iI_t hb, iI_t]
    have h1 : (a.tdiv b).natAbs ≤ a.natAbs := Int.natAbs_tdiv_le_natAbs a b
    omega
  · rw [Int32.toInt_div_of_ne_right _ _ (fun e => h (by have e2 := congrArg Int32.toInt e; rw [iI_t hb] at e2; exact e2)), iI_t ha, iI_t hb, iI_t]
    rcases Int.lt_or_le b 0 with h0 | h0
    · have h2 : (a.tdiv b).natAbs = a.natAbs / b.natAbs := Int.natAbs_tdiv a b
      have h3 : a.natAbs / b.natAbs ≤ a.natAbs / 2 := Nat.div_le_div_left (by omega) (by omega)
      omega
    · rcases Int.le_total 0 a with h1 | h1
      · have h2 : (a.tdiv b).natAbs ≤ a.natAbs := Int.natAbs_tdiv_le_natAbs a b
        omega
      · have h2 : (a.tdiv b).natAbs ≤ a.natAbs := Int.natAbs_tdiv_le_natAbs a b
        have h3 : 0 ≤ (-a).tdiv b := Int.tdiv_nonneg (by omega) h0
        rw [Int.neg_tdiv] at h3
        omega
theorem iI_div {a b : Int} (ha : 0 ≤ a ∧ a ≤ 2147483647) (hb : 0 < b ∧ b ≤ 2147483647) : iI a / iI b = iI (a / b) := by
  rw [iI_tdiv (by omega) (by omega) (by omega), Int.tdiv_eq_ediv_of_nonneg ha.1]
theorem iI_rem {a b : Int} (ha : 0 ≤ a ∧ a ≤ 2147483647) (hb : 0 < b ∧ b ≤ 2147483647) : iI a - iI a / iI b * iI b = iI (a % b) := by
  rw [iI_div ha hb, iI_mul, iI_sub]
  congr 1
  have := Int.mul_ediv_add_emod a b
  have h2 := Int.mul_comm (a / b) b
  omega
theorem lg_c {a b : Int} (ha : zRL a) (hb : zRL b) : lg_cmp (lI a) (lI b) = iI (if b < a then 1 else if a = b then 0 else -1) := by
  have h1 := lI_lt hb ha
  have h2 := lI_eq ha hb
  unfold lg_cmp
  by_cases q : b < a
  · simp [h1.mpr q, q]; rfl
  · by_cases q2 : a = b
    · subst q2
      simp; rfl
    · have n1 : ¬ lI b < lI a := fun z => q (h1.mp z)
      have n2 : ¬ lI a = lI b := fun z => q2 (h2.mp z)
      simp [n1, n2, q, q2]; rfl
section ZROWS
variable {p : Program} {l : Launch} {e : Env} {R : Room} {s : State} {m : MethodId} {args : Array Value} {below : List Frame} {meth : Method} {c : Code} {H : Heap} {locs : List Loc} {cells slots : Nat} {Q : State → Prop} {cc : ByteArray} {pc : Nat} {ls : Array Slot} {rest : List Value}
theorem zi_add (hx : p.tables.exec = Jvm.exec) (hb : c.code = cc) {a b : Int} (d : decode cc pc = .ok (.iadd, 1)) (k : W p l e R s m args below meth c H locs cells slots Q (F0 m (pc + 1) ls (.int (iI (a + b)) :: rest))) : W p l e R s m args below meth c H locs cells slots Q (F0 m pc ls (.int (iI b) :: .int (iI a) :: rest)) := lv_iadd hx hb d (by rw [iI_add]; exact k)
theorem zi_sub (hx : p.tables.exec = Jvm.exec) (hb : c.code = cc) {a b : Int} (d : decode cc pc = .ok (.isub, 1)) (k : W p l e R s m args below meth c H locs cells slots Q (F0 m (pc + 1) ls (.int (iI (a - b)) :: rest))) : W p l e R s m args below meth c H locs cells slots Q (F0 m pc ls (.int (iI b) :: .int (iI a) :: rest)) := lv_isub hx hb d (by rw [iI_sub]; exact k)
theorem zi_mul (hx : p.tables.exec = Jvm.exec) (hb : c.code = cc) {a b : Int} (d : decode cc pc = .ok (.imul, 1)) (k : W p l e R s m args below meth c H locs cells slots Q (F0 m (pc + 1) ls (.int (iI (a * b)) :: rest))) : W p l e R s m args below meth c H locs cells slots Q (F0 m pc ls (.int (iI b) :: .int (iI a) :: rest)) := lv_imul hx hb d (by rw [iI_mul]; exact k)
theorem zi_neg (hx : p.tables.exec = Jvm.exec) (hb : c.code = cc) {a : Int} (d : decode cc pc = .ok (.ineg, 1)) (k : W p l e R s m args below meth c H locs cells slots Q (F0 m (pc + 1) ls (.int (iI (-a)) :: rest))) : W p l e R s m args below meth c H locs cells slots Q (F0 m pc ls (.int (iI a) :: rest)) := lv_ineg hx hb d (by rw [iI_neg]; exact k)
theorem zi_div (hx : p.tables.exec = Jvm.exec) (hb : c.code = cc) {a b : Int} (ha : 0 ≤ a ∧ a ≤ 2147483647) (hb2 : 0 < b ∧ b ≤ 2147483647) (d : decode cc pc = .ok (.idiv, 1)) (k : W p l e R s m args below meth c H locs cells slots Q (F0 m (pc + 1) ls (.int (iI (a / b)) :: rest))) : W p l e R s m args below meth c H locs cells slots Q (F0 m pc ls (.int (iI b) :: .int (iI a) :: rest)) :=
  lv_idiv hx hb d (fun q => by have := (iI_eq (by omega) (by decide)).mp (q.trans iI_0.symm); omega) (by rw [iI_div ha hb2]; exact k)
theorem zi_tdiv (hx : p.tables.exec = Jvm.exec) (hb : c.code = cc) {a b : Int} (ha : zR a) (hb2 : zR b) (h0 : b ≠ 0) (h : a ≠ -2147483648 ∨ b ≠ -1) (d : decode cc pc = .ok (.idiv, 1)) (k : W p l e R s m args below meth c H locs cells slots Q (F0 m (pc + 1) ls (.int (iI (a.tdiv b)) :: rest))) : W p l e R s m args below meth c H locs cells slots Q (F0 m pc ls (.int (iI b) :: .int (iI a) :: rest)) :=
  lv_idiv hx hb d (fun q => h0 ((iI_eq hb2 (by decide)).mp (q.trans iI_0.symm))) (by rw [iI_tdiv ha hb2 h]; exact k)
theorem zi_rem (hx : p.tables.exec = Jvm.exec) (hb : c.code = cc) {a b : Int} (ha : 0 ≤ a ∧ a ≤ 2147483647) (hb2 : 0 < b ∧ b ≤ 2147483647) (d : decode cc pc = .ok (.irem, 1)) (k : W p l e R s m args below meth c H locs cells slots Q (F0 m (pc + 1) ls (.int (iI (a % b)) :: rest))) : W p l e R s m args below meth c H locs cells slots Q (F0 m pc ls (.int (iI b) :: .int (iI a) :: rest)) :=
  lv_irem hx hb d (fun q => by have := (iI_eq (by omega) (by decide)).mp (q.trans iI_0.symm); omega) (by rw [iI_rem ha hb2]; exact k)
theorem zl_add (hx : p.tables.exec = Jvm.exec) (hb : c.code = cc) {a b : Int} (d : decode cc pc = .ok (.ladd, 1)) (k : W p l e R s m args below meth c H locs cells slots Q (F0 m (pc + 1) ls (.long (lI (a + b)) :: rest))) : W p l e R s m args below meth c H locs cells slots Q (F0 m pc ls (.long (lI b) :: .long (lI a) :: rest)) := lv_ladd hx hb d (by rw [lI_add]; exact k)
theorem zl_sub (hx : p.tables.exec = Jvm.exec) (hb : c.code = cc) {a b : Int} (d : decode cc pc = .ok (.lsub, 1)) (k : W p l e R s m args below meth c H locs cells slots Q (F0 m (pc + 1) ls (.long (lI (a - b)) :: rest))) : W p l e R s m args below meth c H locs cells slots Q (F0 m pc ls (.long (lI b) :: .long (lI a) :: rest)) := lv_lsub hx hb d (by rw [lI_sub]; exact k)
theorem zl_mul (hx : p.tables.exec = Jvm.exec) (hb : c.code = cc) {a b : Int} (d : decode cc pc = .ok (.lmul, 1)) (k : W p l e R s m args below meth c H locs cells slots Q (F0 m (pc + 1) ls (.long (lI (a * b)) :: rest))) : W p l e R s m args below meth c H locs cells slots Q (F0 m pc ls (.long (lI b) :: .long (lI a) :: rest)) := lv_lmul hx hb d (by rw [lI_mul]; exact k)
theorem zi_l (hx : p.tables.exec = Jvm.exec) (hb : c.code = cc) {a : Int} (ha : zR a) (d : decode cc pc = .ok (.i2l, 1)) (k : W p l e R s m args below meth c H locs cells slots Q (F0 m (pc + 1) ls (.long (lI a) :: rest))) : W p l e R s m args below meth c H locs cells slots Q (F0 m pc ls (.int (iI a) :: rest)) := lv_i2l hx hb d (iI_l ha) k
theorem zl_i (hx : p.tables.exec = Jvm.exec) (hb : c.code = cc) {a : Int} (d : decode cc pc = .ok (.l2i, 1)) (k : W p l e R s m args below meth c H locs cells slots Q (F0 m (pc + 1) ls (.int (iI a) :: rest))) : W p l e R s m args below meth c H locs cells slots Q (F0 m pc ls (.long (lI a) :: rest)) := lv_l2i hx hb d (lI_i a) k
theorem zl_cmp (hx : p.tables.exec = Jvm.exec) (hb : c.code = cc) {a b : Int} (ha : zRL a) (hb2 : zRL b) (d : decode cc pc = .ok (.lcmp, 1)) (k : W p l e R s m args below meth c H locs cells slots Q (F0 m (pc + 1) ls (.int (iI (if b < a then 1 else if a = b then 0 else -1)) :: rest))) : W p l e R s m args below meth c H locs cells slots Q (F0 m pc ls (.long (lI b) :: .long (lI a) :: rest)) := W.lcmp hx hb d (by rw [lg_c ha hb2]; exact k)
/-- a name for what lies on top -/
theorem zn_i {x : Int} (k : ∀ y : Int, y = x → W p l e R s m args below meth c H locs cells slots Q (F0 m pc ls (.int (iI y) :: rest))) : W p l e R s m args below meth c H locs cells slots Q (F0 m pc ls (.int (iI x) :: rest)) := k x rfl
theorem zn_l {x : Int} (k : ∀ y : Int, y = x → W p l e R s m args below meth c H locs cells slots Q (F0 m pc ls (.long (lI y) :: rest))) : W p l e R s m args below meth c H locs cells slots Q (F0 m pc ls (.long (lI x) :: rest)) := k x rfl
theorem ze_i {x y : Int} (h : x = y) (k : W p l e R s m args below meth c H locs cells slots Q (F0 m pc ls (.int (iI y) :: rest))) : W p l e R s m args below meth c H locs cells slots Q (F0 m pc ls (.int (iI x) :: rest)) := by rw [h]; exact k
theorem ze_l {x y : Int} (h : x = y) (k : W p l e R s m args below meth c H locs cells slots Q (F0 m pc ls (.long (lI y) :: rest))) : W p l e R s m args below meth c H locs cells slots Q (F0 m pc ls (.long (lI x) :: rest)) := by rw [h]; exact k
theorem zi_clt (hx : p.tables.exec = Jvm.exec) (hb : c.code = cc) {a b off : Int} {tgt : Nat} (ha : zR a) (hb2 : zR b) (d : decode cc pc = .ok (.if_icmp .lt off, 3)) (ht : (pc : Int) + off = (tgt : Int)) (kt : a < b → W p l e R s m args below meth c H locs cells slots Q (F0 m tgt ls rest)) (kf : ¬ a < b → W p l e R s m args below meth c H locs cells slots Q (F0 m (pc + 3) ls rest)) : W p l e R s m args below meth c H locs cells slots Q (F0 m pc ls (.int (iI b) :: .int (iI a) :: rest)) :=
  lv_icmp_lt hx hb d ht (fun q => kt ((iI_lt ha hb2).mp q)) (fun q => kf (fun z => q ((iI_lt ha hb2).mpr z)))
theorem zi_flt (hx : p.tables.exec = Jvm.exec) (hb : c.code = cc) {a off : Int} {tgt : Nat} (ha : zR a) (d : decode cc pc = .ok (.ifCond .lt off, 3)) (ht : (pc : Int) + off = (tgt : Int)) (kt : a < 0 → W p l e R s m args below meth c H locs cells slots Q (F0 m tgt ls rest)) (kf : ¬ a < 0 → W p l e R s m args below meth c H locs cells slots Q (F0 m (pc + 3) ls rest)) : W p l e R s m args below meth c H locs cells slots Q (F0 m pc ls (.int (iI a) :: rest)) :=
  lv_if_lt hx hb d ht (fun q => kt ((iI_lt ha (by decide : zR 0)).mp q)) (fun q => kf (fun y => q ((iI_lt ha (by decide : zR 0)).mpr y)))
theorem zi_cge (hx : p.tables.exec = Jvm.exec) (hb : c.code = cc) {a b off : Int} {tgt : Nat} (ha : zR a) (hb2 : zR b) (d : decode cc pc = .ok (.if_icmp .ge off, 3)) (ht : (pc : Int) + off = (tgt : Int)) (kt : a ≥ b → W p l e R s m args below meth c H locs cells slots Q (F0 m tgt ls rest)) (kf : ¬ a ≥ b → W p l e R s m args below meth c H locs cells slots Q (F0 m (pc + 3) ls rest)) : W p l e R s m args below meth c H locs cells slots Q (F0 m pc ls (.int (iI b) :: .int (iI a) :: rest)) :=
  lv_icmp_ge hx hb d ht (fun q => kt ((iI_le hb2 ha).mp q)) (fun q => kf (fun z => q ((iI_le hb2 ha).mpr z)))
theorem zi_fge (hx : p.tables.exec = Jvm.exec) (hb : c.code = cc) {a off : Int} {tgt : Nat} (ha : zR a) (d : decode cc pc = .ok (.ifCond .ge off, 3)) (ht : (pc : Int) + off = (tgt : Int)) (kt : a ≥ 0 → W p l e R s m args below meth c H locs cells slots Q (F0 m tgt ls rest)) (kf : ¬ a ≥ 0 → W p l e R s m args below meth c H locs cells slots Q (F0 m (pc + 3) ls rest)) : W p l e R s m args below meth c H locs cells slots Q (F0 m pc ls (.int (iI a) :: rest)) :=
  lv_if_ge hx hb d ht (fun q => kt ((iI_le (by decide : zR 0) ha).mp q)) (fun q => kf (fun y => q ((iI_le (by decide : zR 0) ha).mpr y)))
theorem zi_cgt (hx : p.tables.exec = Jvm.exec) (hb : c.code = cc) {a b off : Int} {tgt : Nat} (ha : zR a) (hb2 : zR b) (d : decode cc pc = .ok (.if_icmp .gt off, 3)) (ht : (pc : Int) + off = (tgt : Int)) (kt : a > b → W p l e R s m args below meth c H locs cells slots Q (F0 m tgt ls rest)) (kf : ¬ a > b → W p l e R s m args below meth c H locs cells slots Q (F0 m (pc + 3) ls rest)) : W p l e R s m args below meth c H locs cells slots Q (F0 m pc ls (.int (iI b) :: .int (iI a) :: rest)) :=
  lv_icmp_gt hx hb d ht (fun q => kt ((iI_lt hb2 ha).mp q)) (fun q => kf (fun z => q ((iI_lt hb2 ha).mpr z)))
theorem zi_fgt (hx : p.tables.exec = Jvm.exec) (hb : c.code = cc) {a off : Int} {tgt : Nat} (ha : zR a) (d : decode cc pc = .ok (.ifCond .gt off, 3)) (ht : (pc : Int) + off = (tgt : Int)) (kt : a > 0 → W p l e R s m args below meth c H locs cells slots Q (F0 m tgt ls rest)) (kf : ¬ a > 0 → W p l e R s m args below meth c H locs cells slots Q (F0 m (pc + 3) ls rest)) : W p l e R s m args below meth c H locs cells slots Q (F0 m pc ls (.int (iI a) :: rest)) :=
  lv_if_gt hx hb d ht (fun q => kt ((iI_lt (by decide : zR 0) ha).mp q)) (fun q => kf (fun y => q ((iI_lt (by decide : zR 0) ha).mpr y)))
theorem zi_cle (hx : p.tables.exec = Jvm.exec) (hb : c.code = cc) {a b off : Int} {tgt : Nat} (ha : zR a) (hb2 : zR b) (d : decode cc pc = .ok (.if_icmp .le off, 3)) (ht : (pc : Int) + off = (tgt : Int)) (kt : a ≤ b → W p l e R s m args below meth c H locs cells slots Q (F0 m tgt ls rest)) (kf : ¬ a ≤ b → W p l e R s m args below meth c H locs cells slots Q (F0 m (pc + 3) ls rest)) : W p l e R s m args below meth c H locs cells slots Q (F0 m pc ls (.int (iI b) :: .int (iI a) :: rest)) :=
  lv_icmp_le hx hb d ht (fun q => kt ((iI_le ha hb2).mp q)) (fun q => kf (fun z => q ((iI_le ha hb2).mpr z)))
theorem zi_fle (hx : p.tables.exec = Jvm.exec) (hb : c.code = cc) {a off : Int} {tgt : Nat} (ha : zR a) (d : decode cc pc = .ok (.ifCond .le off, 3)) (ht : (pc : Int) + off = (tgt : Int)) (kt : a ≤ 0 → W p l e R s m args below meth c H locs cells slots Q (F0 m tgt ls rest)) (kf : ¬ a ≤ 0 → W p l e R s m args below meth c H locs cells slots Q (F0 m (pc + 3) ls rest)) : W p l e R s m args below meth c H locs cells slots Q (F0 m pc ls (.int (iI a) :: rest)) :=
  lv_if_le hx hb d ht (fun q => kt ((iI_le ha (by decide : zR 0)).mp q)) (fun q => kf (fun y => q ((iI_le ha (by decide : zR 0)).mpr y)))
theorem zi_ceq (hx : p.tables.exec = Jvm.exec) (hb : c.code = cc) {a b off : Int} {tgt : Nat} (ha : zR a) (hb2 : zR b) (d : decode cc pc = .ok (.if_icmp .eq off, 3)) (ht : (pc : Int) + off = (tgt : Int)) (kt : a = b → W p l e R s m args below meth c H locs cells slots Q (F0 m tgt ls rest)) (kf : ¬ a = b → W p l e R s m args below meth c H locs cells slots Q (F0 m (pc + 3) ls rest)) : W p l e R s m args below meth c H locs cells slots Q (F0 m pc ls (.int (iI b) :: .int (iI a) :: rest)) :=
  lv_icmp_eq hx hb d ht (fun q => kt ((iI_eq ha hb2).mp q)) (fun q => kf (fun z => q ((iI_eq ha hb2).mpr z)))
theorem zi_feq (hx : p.tables.exec = Jvm.exec) (hb : c.code = cc) {a off : Int} {tgt : Nat} (ha : zR a) (d : decode cc pc = .ok (.ifCond .eq off, 3)) (ht : (pc : Int) + off = (tgt : Int)) (kt : a = 0 → W p l e R s m args below meth c H locs cells slots Q (F0 m tgt ls rest)) (kf : ¬ a = 0 → W p l e R s m args below meth c H locs cells slots Q (F0 m (pc + 3) ls rest)) : W p l e R s m args below meth c H locs cells slots Q (F0 m pc ls (.int (iI a) :: rest)) :=
  lv_if_eq hx hb d ht (fun q => kt ((iI_eq ha (by decide : zR 0)).mp q)) (fun q => kf (fun y => q ((iI_eq ha (by decide : zR 0)).mpr y)))
theorem zi_cne (hx : p.tables.exec = Jvm.exec) (hb : c.code = cc) {a b off : Int} {tgt : Nat} (ha : zR a) (hb2 : zR b) (d : decode cc pc = .ok (.if_icmp .ne off, 3)) (ht : (pc : Int) + off = (tgt : Int)) (kt : a ≠ b → W p l e R s m args below meth c H locs cells slots Q (F0 m tgt ls rest)) (kf : a = b → W p l e R s m args below meth c H locs cells slots Q (F0 m (pc + 3) ls rest)) : W p l e R s m args below meth c H locs cells slots Q (F0 m pc ls (.int (iI b) :: .int (iI a) :: rest)) :=
  lv_icmp_ne hx hb d ht (fun q => kt ((not_congr (iI_eq ha hb2)).mp q)) (fun q => kf ((iI_eq ha hb2).mp q))
theorem zi_fne (hx : p.tables.exec = Jvm.exec) (hb : c.code = cc) {a off : Int} {tgt : Nat} (ha : zR a) (d : decode cc pc = .ok (.ifCond .ne off, 3)) (ht : (pc : Int) + off = (tgt : Int)) (kt : a ≠ 0 → W p l e R s m args below meth c H locs cells slots Q (F0 m tgt ls rest)) (kf : a = 0 → W p l e R s m args below meth c H locs cells slots Q (F0 m (pc + 3) ls rest)) : W p l e R s m args below meth c H locs cells slots Q (F0 m pc ls (.int (iI a) :: rest)) :=
  lv_if_ne hx hb d ht (fun q => kt ((not_congr (iI_eq ha (by decide : zR 0))).mp q)) (fun q => kf ((iI_eq ha (by decide : zR 0)).mp q))
theorem zb_feq (hx : p.tables.exec = Jvm.exec) (hb : c.code = cc) {P : Prop} [Decidable P] {off : Int} {tgt : Nat} (d : decode cc pc = .ok (.ifCond .eq off, 3)) (ht : (pc : Int) + off = (tgt : Int)) (kt : ¬ P → W p l e R s m args below meth c H locs cells slots Q (F0 m tgt ls rest)) (kf : P → W p l e R s m args below meth c H locs cells slots Q (F0 m (pc + 3) ls rest)) : W p l e R s m args below meth c H locs cells slots Q (F0 m pc ls (.int (iI (b2i P)) :: rest)) :=
  zi_feq hx hb (b2i_r P) d ht (fun q => kt (b2i_0.mp q)) (fun q => kf (b2i_n0.mp q))
theorem zb_fne (hx : p.tables.exec = Jvm.exec) (hb : c.code = cc) {P : Prop} [Decidable P] {off : Int} {tgt : Nat} (d : decode cc pc = .ok (.ifCond .ne off, 3)) (ht : (pc : Int) + off = (tgt : Int)) (kt : P → W p l e R s m args below meth c H locs cells slots Q (F0 m tgt ls rest)) (kf : ¬ P → W p l e R s m args below meth c H locs cells slots Q (F0 m (pc + 3) ls rest)) : W p l e R s m args below meth c H locs cells slots Q (F0 m pc ls (.int (iI (b2i P)) :: rest)) :=
  zi_fne hx hb (b2i_r P) d ht (fun q => kt (b2i_n0.mp q)) (fun q => kf (b2i_0.mp q))
theorem zl_clt (hx : p.tables.exec = Jvm.exec) (hb : c.code = cc) {a b off : Int} {tgt : Nat} (ha : zRL a) (hb2 : zRL b) (d : decode cc pc = .ok (.lcmp, 1)) (d2 : decode cc (pc + 1) = .ok (.ifCond .lt off, 3)) (ht : ((pc + 1 : Nat) : Int) + off = (tgt : Int)) (kt : a < b → W p l e R s m args below meth c H locs cells slots Q (F0 m tgt ls rest)) (kf : ¬ (a < b) → W p l e R s m args below meth c H locs cells slots Q (F0 m (pc + 4) ls rest)) : W p l e R s m args below meth c H locs cells slots Q (F0 m pc ls (.long (lI b) :: .long (lI a) :: rest)) :=
  zl_cmp hx hb ha hb2 d (zi_flt hx hb (by split <;> first | decide | (split <;> decide)) d2 ht (fun q => kt (by
    by_cases h1 : b < a
    · rw [if_pos h1] at q; first | omega | exact absurd q (by decide)
    · rw [if_neg h1] at q
      by_cases h2 : a = b
      · rw [if_pos h2] at q; first | omega | exact absurd q (by decide)
      · rw [if_neg h2] at q; first | omega | exact absurd q (by decide))) (fun q => kf (fun z => q (by
    by_cases h1 : b < a
    · rw [if_pos h1]; try first | omega | decide
    · rw [if_neg h1]
      by_cases h2 : a = b
      · rw [if_pos h2]; try first | omega | decide
      · rw [if_neg h2]; try first | omega | decide))))
theorem zl_cge (hx : p.tables.exec = Jvm.exec) (hb : c.code = cc) {a b off : Int} {tgt : Nat} (ha : zRL a) (hb2 : zRL b) (d : decode cc pc = .ok (.lcmp, 1)) (d2 : decode cc (pc + 1) = .ok (.ifCond .ge off, 3)) (ht : ((pc + 1 : Nat) : Int) + off = (tgt : Int)) (kt : a ≥ b → W p l e R s m args below meth c H locs cells slots Q (F0 m tgt ls rest)) (kf : ¬ (a ≥ b) → W p l e R s m args below meth c H locs cells slots Q (F0 m (pc + 4) ls rest)) : W p l e R s m args below meth c H locs cells slots Q (F0 m pc ls (.long (lI b) :: .long (lI a) :: rest)) :=
  zl_cmp hx hb ha hb2 d (zi_fge hx hb (by split <;> first | decide | (split <;> decide)) d2 ht (fun q => kt (by
    by_cases h1 : b < a
    · rw [if_pos h1] at q; first | omega | exact absurd q (by decide)
    · rw [if_neg h1] at q
      by_cases h2 : a = b
      · rw [if_pos h2] at q; first | omega | exact absurd q (by decide)
      · rw [if_neg h2] at q; first | omega | exact absurd q (by decide))) (fun q => kf (fun z => q (by
    by_cases h1 : b < a
    · rw [if_pos h1]; try first | omega | decide
    · rw [if_neg h1]
      by_cases h2 : a = b
      · rw [if_pos h2]; try first | omega | decide
      · rw [if_neg h2]; try first | omega | decide))))
theorem zl_cgt (hx : p.tables.exec = Jvm.exec) (hb : c.code = cc) {a b off : Int} {tgt : Nat} (ha : zRL a) (hb2 : zRL b) (d : decode cc pc = .ok (.lcmp, 1)) (d2 : decode cc (pc + 1) = .ok (.ifCond .gt off, 3)) (ht : ((pc + 1 : Nat) : Int) + off = (tgt : Int)) (kt : a > b → W p l e R s m args below meth c H locs cells slots Q (F0 m tgt ls rest)) (kf : ¬ (a > b) → W p l e R s m args below meth c H locs cells slots Q (F0 m (pc + 4) ls rest)) : W p l e R s m args below meth c H locs cells slots Q (F0 m pc ls (.long (lI b) :: .long (lI a) :: rest)) :=
  zl_cmp hx hb ha hb2 d (zi_fgt hx hb (by split <;> first | decide | (split <;> decide)) d2 ht (fun q => kt (by
    by_cases h1 : b < a
    · rw [if_pos h1] at q; first | omega | exact absurd q (by decide)
    · rw [if_neg h1] at q
      by_cases h2 : a = b
      · rw [if_pos h2] at q; first | omega | exact absurd q (by decide)
      · rw [if_neg h2] at q; first | omega | exact absurd q (by decide))) (fun q => kf (fun z => q (by
    by_cases h1 : b < a
    · rw [if_pos h1]; try first | omega | decide
    · rw [if_neg h1]
      by_cases h2 : a = b
      · rw [if_pos h2]; try first | omega | decide
      · rw [if_neg h2]; try first | omega | decide))))
theorem zl_cle (hx : p.tables.exec = Jvm.exec) (hb : c.code = cc) {a b off : Int} {tgt : Nat} (ha : zRL a) (hb2 : zRL b) (d : decode cc pc = .ok (.lcmp, 1)) (d2 : decode cc (pc + 1) = .ok (.ifCond .le off, 3)) (ht : ((pc + 1 : Nat) : Int) + off = (tgt : Int)) (kt : a ≤ b → W p l e R s m args below meth c H locs cells slots Q (F0 m tgt ls rest)) (kf : ¬ (a ≤ b) → W p l e R s m args below meth c H locs cells slots Q (F0 m (pc + 4) ls rest)) : W p l e R s m args below meth c H locs cells slots Q (F0 m pc ls (.long (lI b) :: .long (lI a) :: rest)) :=
  zl_cmp hx hb ha hb2 d (zi_fle hx hb (by split <;> first | decide | (split <;> decide)) d2 ht (fun q => kt (by
    by_cases h1 : b < a
    · rw [if_pos h1] at q; first | omega | exact absurd q (by decide)
    · rw [if_neg h1] at q
      by_cases h2 : a = b
      · rw [if_pos h2] at q; first | omega | exact absurd q (by decide)
      · rw [if_neg h2] at q; first | omega | exact absurd q (by decide))) (fun q => kf (fun z => q (by
    by_cases h1 : b < a
    · rw [if_pos h1]; try first | omega | decide
    · rw [if_neg h1]
      by_cases h2 : a = b
      · rw [if_pos h2]; try first | omega | decide
      · rw [if_neg h2]; try first | omega | decide))))
theorem zl_ceq (hx : p.tables.exec = Jvm.exec) (hb : c.code = cc) {a b off : Int} {tgt : Nat} (ha : zRL a) (hb2 : zRL b) (d : decode cc pc = .ok (.lcmp, 1)) (d2 : decode cc (pc + 1) = .ok (.ifCond .eq off, 3)) (ht : ((pc + 1 : Nat) : Int) + off = (tgt : Int)) (kt : a = b → W p l e R s m args below meth c H locs cells slots Q (F0 m tgt ls rest)) (kf : ¬ (a = b) → W p l e R s m args below meth c H locs cells slots Q (F0 m (pc + 4) ls rest)) : W p l e R s m args below meth c H locs cells slots Q (F0 m pc ls (.long (lI b) :: .long (lI a) :: rest)) :=
  zl_cmp hx hb ha hb2 d (zi_feq hx hb (by split <;> first | decide | (split <;> decide)) d2 ht (fun q => kt (by
    by_cases h1 : b < a
    · rw [if_pos h1] at q; first | omega | exact absurd q (by decide)
    · rw [if_neg h1] at q
      by_cases h2 : a = b
      · rw [if_pos h2] at q; first | omega | exact absurd q (by decide)
      · rw [if_neg h2] at q; first | omega | exact absurd q (by decide))) (fun q => kf (fun z => q (by
    by_cases h1 : b < a
    · rw [if_pos h1]; try first | omega | decide
    · rw [if_neg h1]
      by_cases h2 : a = b
      · rw [if_pos h2]; try first | omega | decide
      · rw [if_neg h2]; try first | omega | decide))))
theorem zl_cne (hx : p.tables.exec = Jvm.exec) (hb : c.code = cc) {a b off : Int} {tgt : Nat} (ha : zRL a) (hb2 : zRL b) (d : decode cc pc = .ok (.lcmp, 1)) (d2 : decode cc (pc + 1) = .ok (.ifCond .ne off, 3)) (ht : ((pc + 1 : Nat) : Int) + off = (tgt : Int)) (kt : a ≠ b → W p l e R s m args below meth c H locs cells slots Q (F0 m tgt ls rest)) (kf : a = b → W p l e R s m args below meth c H locs cells slots Q (F0 m (pc + 4) ls rest)) : W p l e R s m args below meth c H locs cells slots Q (F0 m pc ls (.long (lI b) :: .long (lI a) :: rest)) :=
  zl_cmp hx hb ha hb2 d (zi_fne hx hb (by split <;> first | decide | (split <;> decide)) d2 ht (fun q => kt (by
    by_cases h1 : b < a
    · rw [if_pos h1] at q; first | omega | exact absurd q (by decide)
    · rw [if_neg h1] at q
      by_cases h2 : a = b
      · rw [if_pos h2] at q; first | omega | exact absurd q (by decide)
      · rw [if_neg h2] at q; first | omega | exact absurd q (by decide))) (fun q => kf (by
    by_cases h1 : b < a
    · rw [if_pos h1] at q; exact absurd q (by decide)
    · rw [if_neg h1] at q
      by_cases h2 : a = b
      · exact h2
      · rw [if_neg h2] at q; exact absurd q (by decide))))
end ZROWS
/-! worlds of ours: one list of array classes, one list of nest links, for every contract -/
def zNL : List Cond := [.fieldLinkNest "SleepPlanner" 189 "SleepPlanner$Ledger" "spent" "J" "SleepPlanner", .fieldLinkNest "SleepPlanner" 193 "SleepPlanner$Ledger" "ticksIn" "[I" "SleepPlanner", .fieldLinkNest "SleepPlanner" 200 "SleepPlanner$Ledger" "sleeps" "I" "SleepPlanner", .fieldLinkNest "SleepPlanner" 203 "SleepPlanner$Ledger" "lateness" "I" "SleepPlanner", .fieldLinkNest "SleepPlanner" 206 "SleepPlanner$Ledger" "served" "I" "SleepPlanner", .fieldLinkNest "SleepPlanner" 211 "SleepPlanner$Battery" "harvest" "[I" "SleepPlanner", .fieldLinkNest "SleepPlanner" 214 "SleepPlanner$Battery" "available" "I" "SleepPlanner", .fieldLinkNest "SleepPlanner" 217 "SleepPlanner$Battery" "bound" "I" "SleepPlanner", .fieldLinkNest "SleepPlanner" 220 "SleepPlanner$Battery" "shortTicks" "I" "SleepPlanner", .fieldLinkNest "SleepPlanner" 301 "SleepPlanner$IdleTimes" "count" "I" "SleepPlanner", .fieldLinkNest "SleepPlanner" 177 "SleepPlanner$Jobs" "count" "I" "SleepPlanner", .fieldLinkNest "SleepPlanner$Plans" 24 "SleepPlanner$Jobs" "count" "I" "SleepPlanner"]
def zML : List Cond := [.methodLinkNest "SleepPlanner$Battery" 27 yX7_read "SleepPlanner", .methodLinkNest "SleepPlanner$Clocks" 36 yX7_read "SleepPlanner", .methodLinkNest "SleepPlanner$Clocks" 44 yX7_exchange "SleepPlanner", .methodLinkNest "SleepPlanner$Ledger" 32 yX7_read "SleepPlanner", .methodLinkNest "SleepPlanner$Ledger" 36 yX7_exchange "SleepPlanner", .methodLinkNest "SleepPlanner$States" 21 yX7_exchange "SleepPlanner", .methodLinkNest "SleepPlanner$States" 25 yX7_read "SleepPlanner"]
def zN (U : State) : Prop := (∀ w ∈ zNL, va_Nw w U) ∧ ∀ w ∈ zML, va_Nw w U
theorem zN.warm {s U : State} (hW : s.WarmedH U.vm) (h : zN s) : zN U := by
  refine ⟨fun w hw => ?_, fun w hw => ?_⟩
  · have h1 := h.1 w hw
    simp only [zNL, List.mem_cons, List.not_mem_nil, or_false] at hw
    rcases hw with rfl | rfl | rfl | rfl | rfl | rfl | rfl | rfl | rfl | rfl | rfl | rfl <;> exact va_Nw.warmF hW h1
  · have h1 := h.2 w hw
    simp only [zML, List.mem_cons, List.not_mem_nil, or_false] at hw
    rcases hw with rfl | rfl | rfl | rfl | rfl | rfl | rfl <;> exact va_Nw.warmM hW h1
theorem zN.same {u U : State} (hvm : u.vm = U.vm) (h : zN u) : zN U := by
  refine ⟨fun w hw => ?_, fun w hw => ?_⟩
  · have h1 := h.1 w hw
    simp only [zNL, List.mem_cons, List.not_mem_nil, or_false] at hw
    rcases hw with rfl | rfl | rfl | rfl | rfl | rfl | rfl | rfl | rfl | rfl | rfl | rfl <;> exact va_Nw.same rfl hvm h1
  · have h1 := h.2 w hw
    simp only [zML, List.mem_cons, List.not_mem_nil, or_false] at hw
    rcases hw with rfl | rfl | rfl | rfl | rfl | rfl | rfl <;> exact va_Nw.same rfl hvm h1
def zK (D : va_G) (tys : List (ClassId × FieldType)) (U : State) : Prop := va_K D vwCl tys U ∧ zN U
theorem zK.warm {D : va_G} {tys : List (ClassId × FieldType)} {s U : State} (hW : s.WarmedH U.vm) (h : zK D tys s) : zK D tys U := ⟨h.1.moved hW.alike, h.2.warm hW⟩
theorem zK.same {D : va_G} {tys : List (ClassId × FieldType)} {u U : State} (hvm : u.vm = U.vm) (h : zK D tys u) : zK D tys U := ⟨h.1.moved (by rw [hvm]; exact Vm.Alike.refl _), h.2.same hvm⟩
/-- arrays of ints, of longs, of truths -/
abbrev zA (cA : ClassId) (n : Nat) (f : Int → Int) : va_E := .inl (cA, n, .inl (aI f))
abbrev zAL (cA : ClassId) (n : Nat) (f : Int → Int) : va_E := .inl (cA, n, .inr (.inl (aL f)))
/-- how a method begins: its arguments, its world -/
def zP (D : va_G) (tys : List (ClassId × FieldType)) (W0 : va_W) (sz : Nat) (av : List Value) : Array Value → State → Prop := va_Pc av (fun U => U.heap.size = sz ∧ va_P D vwCl W0 U.heap ∧ zK D tys U ∧ va_D (fun _ => True) W0)
def zQ (D : va_G) (tys : List (ClassId × FieldType)) (W0 : va_W) (av : List Value) : Array Value → State → Prop := va_Pc av (fun U => va_P D vwCl W0 U.heap ∧ zK D tys U)
def zB (D : va_G) (A : Nat → Prop) {S : Type} (W1 : S → va_W) : S → State → Prop := fun u t => va_P D vwCl (W1 u) t.heap ∧ va_D A (W1 u)
/-- a method that answers an int and leaves the world W1 u -/
def zMi (l : Launch) (y : MethodName) (ws : List Cond) (rm : Room) (D : va_G) (tys : List (ClassId × FieldType)) (W0 : va_W) (av : List Value) {S : Type} (post : Int → S → Prop) (W1 : S → va_W) (mc ms : Nat) : Prop :=
  ∀ sz : Nat, Met l y ws rm (zP D tys W0 sz av) (va_Qi (fun r u => ∃ v : Int, r = iI v ∧ post v u) (zB D (va_A W0 sz) W1) (va_A W0 sz)) mc ms (va_A W0 sz)
def zMl (l : Launch) (y : MethodName) (ws : List Cond) (rm : Room) (D : va_G) (tys : List (ClassId × FieldType)) (W0 : va_W) (av : List Value) {S : Type} (post : Int → S → Prop) (W1 : S → va_W) (mc ms : Nat) : Prop :=
  ∀ sz : Nat, Met l y ws rm (zP D tys W0 sz av) (va_Ql (fun r u => ∃ v : Int, r = lI v ∧ post v u) (zB D (va_A W0 sz) W1) (va_A W0 sz)) mc ms (va_A W0 sz)
def zMv (l : Launch) (y : MethodName) (ws : List Cond) (rm : Room) (D : va_G) (tys : List (ClassId × FieldType)) (W0 : va_W) (av : List Value) {S : Type} (post : S → Prop) (W1 : S → va_W) (mc ms : Nat) : Prop :=
  ∀ sz : Nat, Met l y ws rm (zP D tys W0 sz av) (va_Qv post (zB D (va_A W0 sz) W1) (va_A W0 sz)) mc ms (va_A W0 sz)
/-- a method that only reads: its answer is v -/
def zPi (l : Launch) (y : MethodName) (ws : List Cond) (rm : Room) (D : va_G) (tys : List (ClassId × FieldType)) (W0 : va_W) (av : List Value) (v : Int) : Prop := Met l y ws rm (zQ D tys W0 av) (vp_Si (fun r => r = iI v)) 0 0 (fun _ => False)
def zPl (l : Launch) (y : MethodName) (ws : List Cond) (rm : Room) (D : va_G) (tys : List (ClassId × FieldType)) (W0 : va_W) (av : List Value) (v : Int) : Prop := Met l y ws rm (zQ D tys W0 av) (vp_Sl (fun r => r = lI v)) 0 0 (fun _ => False)
theorem zP.blind {D : va_G} {tys : List (ClassId × FieldType)} {W0 : va_W} {sz : Nat} {av : List Value} : FrameBlind (zP D tys W0 sz av) := fun a U g mk q => by
  obtain ⟨q0, q1, q2, q3, q4⟩ := q
  exact ⟨q0, q1, q2, q3.same (u := U) (U := U.calling g mk a) rfl, q4⟩
theorem zQ.blind {D : va_G} {tys : List (ClassId × FieldType)} {W0 : va_W} {av : List Value} : FrameBlind (zQ D tys W0 av) := fun a U g mk q => by
  obtain ⟨q0, q1, q2⟩ := q
  exact ⟨q0, q1, q2.same (u := U) (U := U.calling g mk a) rfl⟩
/-- what a method's body is given -/
def zEnt (p : Program) (s : State) (m : MethodId) (meth : Method) (c : Code) (cc : ByteArray) (maxL : Nat) (ret : Option FieldType) (cls nm : String) (ws : List Cond) (av : List Value) : Prop :=
  p.tables.exec = Jvm.exec ∧ c.code = cc ∧ meth.sig.returnType = ret ∧ c.maxLocals = maxL ∧ s.vm.findClass cls = some m.cls ∧ (∀ w ∈ ws, w.before av.toArray s = true) ∧ meth.locks = false ∧ meth.name = nm
section ZENT
variable {l : Launch} {y : MethodName} {ws ws' : List Cond} {rm : Room} {D : va_G} {tys : List (ClassId × FieldType)} {W0 : va_W} {av : List Value} {S : Type} {W1 : S → va_W} {mc ms : Nat} {cc : ByteArray} {maxL : Nat} {ret : Option FieldType}
theorem zent_i {post : Int → S → Prop} (hy : plainName y.cls = true) (hw : ws = Cond.code y cc maxL ret :: ws') (hl : (lg_sl av).length ≤ maxL)
    (body : ∀ (p : Program) (e : Env) (s : State) (m : MethodId) (below : List Frame) (meth : Method) (c : Code) (A : Nat → Prop) (ls : Array Slot), zEnt p s m meth c cc maxL ret y.cls y.name ws av → va_P D vwCl W0 s.heap → zK D tys s → (∀ q : Nat, s.heap.size ≤ q → A q) → va_D A W0 → va_S A s.heap s.heap [] → lv_has ls maxL (lv_args 0 av) →
      W p l e rm s m av.toArray below meth c s.heap [] 0 0 (MQ below (va_Qi (fun r u => ∃ v : Int, r = iI v ∧ post v u) (zB D A W1) A) av.toArray s mc ms A) (F0 m 0 ls [])) : zMi l y ws rm D tys W0 av post W1 mc ms := by
  intro sz
  refine Met.ofW (cc := cc) (maxL := maxL) (ret := ret) hy hw ?_
  intro p e s m args below meth c s₁ B hml hv
  obtain ⟨rfl, hsz, hP, hK, hD0⟩ := hv
  subst hsz
  have h := lv_entry av (n := maxL) hl
  rw [lg_entry_eq]
  exact body p e s m below meth c (va_A W0 s.heap.size) _ ⟨B.exec, B.bytes, B.returns, hml, findClass_of_methodNamed B.named, atoms_spec (ws := ws) B.pre, B.notSynchronized, (name_of_methodNamed B.named B.method).1⟩ hP hK (fun q h => Or.inr h) hD0.self va_S.rf h
theorem zent_l {post : Int → S → Prop} (hy : plainName y.cls = true) (hw : ws = Cond.code y cc maxL ret :: ws') (hl : (lg_sl av).length ≤ maxL)
    (body : ∀ (p : Program) (e : Env) (s : State) (m : MethodId) (below : List Frame) (meth : Method) (c : Code) (A : Nat → Prop) (ls : Array Slot), zEnt p s m meth c cc maxL ret y.cls y.name ws av → va_P D vwCl W0 s.heap → zK D tys s → (∀ q : Nat, s.heap.size ≤ q → A q) → va_D A W0 → va_S A s.heap s.heap [] → lv_has ls maxL (lv_args 0 av) →
      W p l e rm s m av.toArray below meth c s.heap [] 0 0 (MQ below (va_Ql (fun r u => ∃ v : Int, r = lI v ∧ post v u) (zB D A W1) A) av.toArray s mc ms A) (F0 m 0 ls [])) : zMl l y ws rm D tys W0 av post W1 mc ms := by
  intro sz
  refine Met.ofW (cc := cc) (maxL := maxL) (ret := ret) hy hw ?_
  intro p e s m args below meth c s₁ B hml hv
  obtain ⟨rfl, hsz, hP, hK, hD0⟩ := hv
  subst hsz
  have h := lv_entry av (n := maxL) hl
  rw [lg_entry_eq]
  exact body p e s m below meth c (va_A W0 s.heap.size) _ ⟨B.exec, B.bytes, B.returns, hml, findClass_of_methodNamed B.named, atoms_spec (ws := ws) B.pre, B.notSynchronized, (name_of_methodNamed B.named B.method).1⟩ hP hK (fun q h => Or.inr h) hD0.self va_S.rf h
theorem zent_v {post : S → Prop} (hy : plainName y.cls = true) (hw : ws = Cond.code y cc maxL ret :: ws') (hl : (lg_sl av).length ≤ maxL)
    (body : ∀ (p : Program) (e : Env) (s : State) (m : MethodId) (below : List Frame) (meth : Method) (c : Code) (A : Nat → Prop) (ls : Array Slot), zEnt p s m meth c cc maxL ret y.cls y.name ws av → va_P D vwCl W0 s.heap → zK D tys s → (∀ q : Nat, s.heap.size ≤ q → A q) → va_D A W0 → va_S A s.heap s.heap [] → lv_has ls maxL (lv_args 0 av) →
      W p l e rm s m av.toArray below meth c s.heap [] 0 0 (MQ below (va_Qv post (zB D A W1) A) av.toArray s mc ms A) (F0 m 0 ls [])) : zMv l y ws rm D tys W0 av post W1 mc ms := by
  intro sz
  refine Met.ofW (cc := cc) (maxL := maxL) (ret := ret) hy hw ?_
  intro p e s m args below meth c s₁ B hml hv
  obtain ⟨rfl, hsz, hP, hK, hD0⟩ := hv
  subst hsz
  have h := lv_entry av (n := maxL) hl
  rw [lg_entry_eq]
  exact body p e s m below meth c (va_A W0 s.heap.size) _ ⟨B.exec, B.bytes, B.returns, hml, findClass_of_methodNamed B.named, atoms_spec (ws := ws) B.pre, B.notSynchronized, (name_of_methodNamed B.named B.method).1⟩ hP hK (fun q h => Or.inr h) hD0.self va_S.rf h
theorem zent_pi {v : Int} (hy : plainName y.cls = true) (hw : ws = Cond.code y cc maxL ret :: ws') (hl : (lg_sl av).length ≤ maxL)
    (body : ∀ (p : Program) (e : Env) (s : State) (m : MethodId) (below : List Frame) (meth : Method) (c : Code) (ls : Array Slot), zEnt p s m meth c cc maxL ret y.cls y.name ws av → va_P D vwCl W0 s.heap → zK D tys s → lv_has ls maxL (lv_args 0 av) →
      W p l e rm s m av.toArray below meth c s.heap [] 0 0 (MQ below (vp_Si (fun r => r = iI v)) av.toArray s 0 0 (fun _ => False)) (F0 m 0 ls [])) : zPi l y ws rm D tys W0 av v := by
  refine Met.ofW (cc := cc) (maxL := maxL) (ret := ret) hy hw ?_
  intro p e s m args below meth c s₁ B hml hv
  obtain ⟨rfl, hP, hK⟩ := hv
  have h := lv_entry av (n := maxL) hl
  rw [lg_entry_eq]
  exact body p e s m below meth c _ ⟨B.exec, B.bytes, B.returns, hml, findClass_of_methodNamed B.named, atoms_spec (ws := ws) B.pre, B.notSynchronized, (name_of_methodNamed B.named B.method).1⟩ hP hK h
theorem zent_pl {v : Int} (hy : plainName y.cls = true) (hw : ws = Cond.code y cc maxL ret :: ws') (hl : (lg_sl av).length ≤ maxL)
    (body : ∀ (p : Program) (e : Env) (s : State) (m : MethodId) (below : List Frame) (meth : Method) (c : Code) (ls : Array Slot), zEnt p s m meth c cc maxL ret y.cls y.name ws av → va_P D vwCl W0 s.heap → zK D tys s → lv_has ls maxL (lv_args 0 av) →
      W p l e rm s m av.toArray below meth c s.heap [] 0 0 (MQ below (vp_Sl (fun r => r = lI v)) av.toArray s 0 0 (fun _ => False)) (F0 m 0 ls [])) : zPl l y ws rm D tys W0 av v := by
  refine Met.ofW (cc := cc) (maxL := maxL) (ret := ret) hy hw ?_
  intro p e s m args below meth c s₁ B hml hv
  obtain ⟨rfl, hP, hK⟩ := hv
  have h := lv_entry av (n := maxL) hl
  rw [lg_entry_eq]
  exact body p e s m below meth c _ ⟨B.exec, B.bytes, B.returns, hml, findClass_of_methodNamed B.named, atoms_spec (ws := ws) B.pre, B.notSynchronized, (name_of_methodNamed B.named B.method).1⟩ hP hK h
end ZENT
theorem z_fm {α β : Type} {g : α → Option β} {is : List α} {l : List β} (h : is.map g = l.map some) : is.filterMap g = l := by
  have e : is.filterMap g = (is.map g).filterMap id := by rw [List.filterMap_map]; rfl
  rw [e, h, List.filterMap_map]
  show l.filterMap (fun a => some a) = l
  exact List.filterMap_some
section ZENDS
variable {p : Program} {l : Launch} {e : Env} {R : Room} {s : State} {m : MethodId} {args : Array Value} {below : List Frame} {meth : Method} {c : Code} {H : Heap} {locs : List Loc} {cells slots : Nat} {Q : State → Prop} {cc : ByteArray} {pc : Nat} {ls : Array Slot} {rest : List Value} {D : va_G} {tys : List (ClassId × FieldType)} {ws : va_W} {A : Nat → Prop} {S : Type} {W1 : S → va_W}
theorem zret_i {post : Int → S → Prop} {v : Int} (u : S) (hx : p.tables.exec = Jvm.exec) (hb : c.code = cc) (hr : meth.sig.returnType = some .int) (hP : va_P D vwCl (W1 u) H) (hD : va_D A (W1 u)) (hS : va_S A s.heap H locs) (hlocks : meth.locks = false) (d : decode cc pc = .ok (.ireturn, 1)) (hpost : post v u) :
    W p l e R s m args below meth c H locs cells slots (MQ below (va_Qi (fun r u => ∃ v : Int, r = iI v ∧ post v u) (zB D A W1) A) args s cells slots A) (F0 m pc ls [.int (iI v)]) :=
  W.iret hx hb hr (fun t ht _ => ⟨⟨iI v, u, rfl, ⟨v, rfl, hpost⟩, by rw [ht]; exact hP, hD⟩, hS.F ht⟩) hS.2.2 d hlocks
theorem zret_z {post : Int → S → Prop} {v : Int} (u : S) (hx : p.tables.exec = Jvm.exec) (hb : c.code = cc) (hr : meth.sig.returnType = some .boolean) (hP : va_P D vwCl (W1 u) H) (hD : va_D A (W1 u)) (hS : va_S A s.heap H locs) (hlocks : meth.locks = false) (d : decode cc pc = .ok (.ireturn, 1)) (hv : v = 0 ∨ v = 1) (hpost : post v u) :
    W p l e R s m args below meth c H locs cells slots (MQ below (va_Qi (fun r u => ∃ v : Int, r = iI v ∧ post v u) (zB D A W1) A) args s cells slots A) (F0 m pc ls [.int (iI v)]) :=
  W.zret hx hb hr (nr_b hv) (fun t ht _ => ⟨⟨iI v, u, rfl, ⟨v, rfl, hpost⟩, by rw [ht]; exact hP, hD⟩, hS.F ht⟩) hS.2.2 d hlocks
theorem zret_l {post : Int → S → Prop} {v : Int} (u : S) (hx : p.tables.exec = Jvm.exec) (hb : c.code = cc) (hr : meth.sig.returnType = some .long) (hP : va_P D vwCl (W1 u) H) (hD : va_D A (W1 u)) (hS : va_S A s.heap H locs) (hlocks : meth.locks = false) (d : decode cc pc = .ok (.lreturn, 1)) (hpost : post v u) :
    W p l e R s m args below meth c H locs cells slots (MQ below (va_Ql (fun r u => ∃ v : Int, r = lI v ∧ post v u) (zB D A W1) A) args s cells slots A) (F0 m pc ls [.long (lI v)]) :=
  W.lret hx hb hr (fun t ht _ => ⟨⟨lI v, u, rfl, ⟨v, rfl, hpost⟩, by rw [ht]; exact hP, hD⟩, hS.F ht⟩) hS.2.2 d hlocks
theorem zret_v {post : S → Prop} (u : S) (hx : p.tables.exec = Jvm.exec) (hb : c.code = cc) (hr : meth.sig.returnType = none) (hP : va_P D vwCl (W1 u) H) (hD : va_D A (W1 u)) (hS : va_S A s.heap H locs) (hlocks : meth.locks = false) (d : decode cc pc = .ok (.return_, 1)) (hpost : post u) :
    W p l e R s m args below meth c H locs cells slots (MQ below (va_Qv post (zB D A W1) A) args s cells slots A) (F0 m pc ls []) :=
  W.vret hx hb hr (fun t ht _ => ⟨⟨u, rfl, hpost, by rw [ht]; exact hP, hD⟩, hS.F ht⟩) hS.2.2 d hlocks
theorem zret_pi {v w : Int} (hx : p.tables.exec = Jvm.exec) (hb : c.code = cc) (hr : meth.sig.returnType = some .int) (hlocks : meth.locks = false) (d : decode cc pc = .ok (.ireturn, 1)) (hv : v = w) :
    W p l e R s m args below meth c s.heap [] 0 0 (MQ below (vp_Si (fun r => r = iI w)) args s 0 0 (fun _ => False)) (F0 m pc ls [.int (iI v)]) :=
  W.iret hx hb hr (fun t ht _ => ⟨iI v, rfl, by rw [hv], ht⟩) (fun _ h => by cases h) d hlocks
theorem zret_pz {v w : Int} (hx : p.tables.exec = Jvm.exec) (hb : c.code = cc) (hr : meth.sig.returnType = some .boolean) (hlocks : meth.locks = false) (d : decode cc pc = .ok (.ireturn, 1)) (h01 : v = 0 ∨ v = 1) (hv : v = w) :
    W p l e R s m args below meth c s.heap [] 0 0 (MQ below (vp_Si (fun r => r = iI w)) args s 0 0 (fun _ => False)) (F0 m pc ls [.int (iI v)]) :=
  W.zret hx hb hr (nr_b h01) (fun t ht _ => ⟨iI v, rfl, by rw [hv], ht⟩) (fun _ h => by cases h) d hlocks
theorem zret_pl {v w : Int} (hx : p.tables.exec = Jvm.exec) (hb : c.code = cc) (hr : meth.sig.returnType = some .long) (hlocks : meth.locks = false) (d : decode cc pc = .ok (.lreturn, 1)) (hv : v = w) :
    W p l e R s m args below meth c s.heap [] 0 0 (MQ below (vp_Sl (fun r => r = lI w)) args s 0 0 (fun _ => False)) (F0 m pc ls [.long (lI v)]) :=
  W.lret hx hb hr (fun t ht _ => ⟨lI v, rfl, by rw [hv], ht⟩) (fun _ h => by cases h) d hlocks
variable {a : Addr} {H0 : Heap}
theorem za_ld (hx : p.tables.exec = Jvm.exec) (hb : c.code = cc) (hK : zK D tys s) (hP : va_P D vwCl ws H) (q0 t0 : Nat) {cA : ClassId} {n : Nat} {f : Int → Int} {i : Int} (ha : ws[q0]? = some (a, zA cA n f)) (ht : tys[t0]? = some (cA, .int)) (hi : 0 ≤ i ∧ i < n) (hn : n ≤ 2147483647) (d : decode cc pc = .ok (.iaload, 1))
    (k : W p l e R s m args below meth c H locs cells slots Q (F0 m (pc + 1) ls (.int (iI (f i)) :: rest))) : W p l e R s m args below meth c H locs cells slots Q (F0 m pc ls (.int (iI i) :: .ref a :: rest)) :=
  va_iald hx hb hK.1 hP q0 t0 ha ht (iI_in hi hn) d (by rw [aI_at hi.1 (by omega)]; exact k)
theorem za_zld (hx : p.tables.exec = Jvm.exec) (hb : c.code = cc) (hK : zK D tys s) (hP : va_P D vwCl ws H) (q0 t0 : Nat) {cA : ClassId} {n : Nat} {f : Int → Int} {i : Int} (ha : ws[q0]? = some (a, zA cA n f)) (ht : tys[t0]? = some (cA, .boolean)) (hi : 0 ≤ i ∧ i < n) (hn : n ≤ 2147483647) (d : decode cc pc = .ok (.baload, 1))
    (k : W p l e R s m args below meth c H locs cells slots Q (F0 m (pc + 1) ls (.int (iI (f i)) :: rest))) : W p l e R s m args below meth c H locs cells slots Q (F0 m pc ls (.int (iI i) :: .ref a :: rest)) :=
  va_zald hx hb hK.1 hP q0 t0 ha ht (iI_in hi hn) d (by rw [aI_at hi.1 (by omega)]; exact k)
theorem za_lld (hx : p.tables.exec = Jvm.exec) (hb : c.code = cc) (hK : zK D tys s) (hP : va_P D vwCl ws H) (q0 t0 : Nat) {cA : ClassId} {n : Nat} {f : Int → Int} {i : Int} (ha : ws[q0]? = some (a, zAL cA n f)) (ht : tys[t0]? = some (cA, .long)) (hi : 0 ≤ i ∧ i < n) (hn : n ≤ 2147483647) (d : decode cc pc = .ok (.laload, 1))
    (k : W p l e R s m args below meth c H locs cells slots Q (F0 m (pc + 1) ls (.long (lI (f i)) :: rest))) : W p l e R s m args below meth c H locs cells slots Q (F0 m pc ls (.int (iI i) :: .ref a :: rest)) :=
  va_lald hx hb hK.1 hP q0 t0 ha ht (iI_in hi hn) d (by rw [aL_at hi.1 (by omega)]; exact k)
theorem za_st (hx : p.tables.exec = Jvm.exec) (hb : c.code = cc) (hK : zK D tys s) (hP : va_P D vwCl ws H) (hD : va_D A ws) (hS : va_S A H0 H locs) (q0 t0 : Nat) {cA : ClassId} {n : Nat} {f : Int → Int} {i x : Int} (ha : ws[q0]? = some (a, zA cA n f)) (ht : tys[t0]? = some (cA, .int)) (hi : 0 ≤ i ∧ i < n) (hn : n ≤ 2147483647) (d : decode cc pc = .ok (.iastore, 1))
    (k : ∀ (H1 : Heap) (locs1 : List Loc), va_P D vwCl (ws.set q0 (a, zA cA n (uZ f i x))) H1 → va_D A (ws.set q0 (a, zA cA n (uZ f i x))) → va_S A H0 H1 locs1 → W p l e R s m args below meth c H1 locs1 cells slots Q (F0 m (pc + 1) ls rest)) : W p l e R s m args below meth c H locs cells slots Q (F0 m pc ls (.int (iI x) :: .int (iI i) :: .ref a :: rest)) :=
  va_iast hx hb hK.1 hP hD hS q0 t0 ha ht (iI_in hi hn) d (fun H1 locs1 h1 h2 h3 => by rw [aI_up hi.1 (by omega)] at h1 h2; exact k H1 locs1 h1 h2 h3)
theorem za_zst (hx : p.tables.exec = Jvm.exec) (hb : c.code = cc) (hK : zK D tys s) (hP : va_P D vwCl ws H) (hD : va_D A ws) (hS : va_S A H0 H locs) (q0 t0 : Nat) {cA : ClassId} {n : Nat} {f : Int → Int} {i x : Int} (ha : ws[q0]? = some (a, zA cA n f)) (ht : tys[t0]? = some (cA, .boolean)) (hi : 0 ≤ i ∧ i < n) (hn : n ≤ 2147483647) (hv : x = 0 ∨ x = 1) (d : decode cc pc = .ok (.bastore, 1))
    (k : ∀ (H1 : Heap) (locs1 : List Loc), va_P D vwCl (ws.set q0 (a, zA cA n (uZ f i x))) H1 → va_D A (ws.set q0 (a, zA cA n (uZ f i x))) → va_S A H0 H1 locs1 → W p l e R s m args below meth c H1 locs1 cells slots Q (F0 m (pc + 1) ls rest)) : W p l e R s m args below meth c H locs cells slots Q (F0 m pc ls (.int (iI x) :: .int (iI i) :: .ref a :: rest)) :=
  va_zast hx hb hK.1 hP hD hS q0 t0 ha ht (iI_in hi hn) d (fun H1 locs1 h1 h2 h3 => by rw [vp_nb hv, aI_up hi.1 (by omega)] at h1 h2; exact k H1 locs1 h1 h2 h3)
theorem za_lst (hx : p.tables.exec = Jvm.exec) (hb : c.code = cc) (hK : zK D tys s) (hP : va_P D vwCl ws H) (hD : va_D A ws) (hS : va_S A H0 H locs) (q0 t0 : Nat) {cA : ClassId} {n : Nat} {f : Int → Int} {i x : Int} (ha : ws[q0]? = some (a, zAL cA n f)) (ht : tys[t0]? = some (cA, .long)) (hi : 0 ≤ i ∧ i < n) (hn : n ≤ 2147483647) (d : decode cc pc = .ok (.lastore, 1))
    (k : ∀ (H1 : Heap) (locs1 : List Loc), va_P D vwCl (ws.set q0 (a, zAL cA n (uZ f i x))) H1 → va_D A (ws.set q0 (a, zAL cA n (uZ f i x))) → va_S A H0 H1 locs1 → W p l e R s m args below meth c H1 locs1 cells slots Q (F0 m (pc + 1) ls rest)) : W p l e R s m args below meth c H locs cells slots Q (F0 m pc ls (.long (lI x) :: .int (iI i) :: .ref a :: rest)) :=
  va_last hx hb hK.1 hP hD hS q0 t0 ha ht (iI_in hi hn) d (fun H1 locs1 h1 h2 h3 => by rw [aL_up hi.1 (by omega)] at h1 h2; exact k H1 locs1 h1 h2 h3)
theorem za_len (hx : p.tables.exec = Jvm.exec) (hb : c.code = cc) (hK : zK D tys s) (hP : va_P D vwCl ws H) (q0 t0 : Nat) {cA : ClassId} {n : Nat} {f : Int → Int} {ty : FieldType} (ha : ws[q0]? = some (a, zA cA n f)) (ht : tys[t0]? = some (cA, ty)) (d : decode cc pc = .ok (.arraylength, 1))
    (k : W p l e R s m args below meth c H locs cells slots Q (F0 m (pc + 1) ls (.int (iI (n : Int)) :: rest))) : W p l e R s m args below meth c H locs cells slots Q (F0 m pc ls (.ref a :: rest)) :=
  va_alen hx hb hK.1 hP q0 t0 ha ht (v := iI (n : Int)) (by show Int32.ofNat n = iI (n : Int); exact (Int32.ofInt_eq_ofNat).symm) d k
/-- a call that only reads -/
theorem zc_pi {v : Int} {st0 : List Value} {aa : Array Value} (hr : va_Run p l e R s m args below meth c H locs cells slots 0 0 (F0 m pc ls st0) rest (vp_Si (fun r => r = iI v) aa) (fun _ => False))
    (k : W p l e R s m args below meth c H locs cells slots Q (F0 m (pc + 3) ls (.int (iI v) :: rest))) : W p l e R s m args below meth c H locs cells slots Q (F0 m pc ls st0) := by
  intro T hT X
  obtain ⟨w, st₀, t, T', L, h0, X', hL, e1, e2, ⟨r, hv, rfl, hh⟩, st⟩ := hr T hT X
  cases hv
  obtain ⟨t2, a1, b1⟩ := k T' (by rw [e1, hh, h0]) (Stand.forget X' (fun q h => (hL q h).elim))
  exact ⟨t2, st t2 a1, b1⟩
theorem zc_pl {v : Int} {st0 : List Value} {aa : Array Value} (hr : va_Run p l e R s m args below meth c H locs cells slots 0 0 (F0 m pc ls st0) rest (vp_Sl (fun r => r = lI v) aa) (fun _ => False))
    (k : W p l e R s m args below meth c H locs cells slots Q (F0 m (pc + 3) ls (.long (lI v) :: rest))) : W p l e R s m args below meth c H locs cells slots Q (F0 m pc ls st0) := by
  intro T hT X
  obtain ⟨w, st₀, t, T', L, h0, X', hL, e1, e2, ⟨r, hv, rfl, hh⟩, st⟩ := hr T hT X
  cases hv
  obtain ⟨t2, a1, b1⟩ := k T' (by rw [e1, hh, h0]) (Stand.forget X' (fun q h => (hL q h).elim))
  exact ⟨t2, st t2 a1, b1⟩
/-- a call that changes its world W0, which lies at the places isC of the caller's world; what lies at isR stays -/
theorem zc_i {post : Int → S → Prop} {mc ms : Nat} {W0 wr : va_W} {st0 : List Value} {aa : Array Value} (hr : va_Run p l e R s m args below meth c H locs cells slots mc ms (F0 m pc ls st0) rest (va_Qi (fun r u => ∃ v : Int, r = iI v ∧ post v u) (zB D (va_A W0 H.size) W1) (va_A W0 H.size) aa) (va_A W0 H.size))
    (hP : va_P D vwCl ws H) (hD : va_D A ws) (hS : va_S A H0 H locs) (hA : ∀ q : Nat, H0.size ≤ q → A q) (isC isR : List Nat) (hC : isC.map (fun i => ws[i]?) = W0.map some) (hR : isR.map (fun i => ws[i]?) = wr.map some) (hn : va_nd isR = true) (hdis : ∀ i ∈ isR, i ∉ isC)
    (k : ∀ (v : Int) (u : S) (H1 : Heap) (locs1 : List Loc), post v u → va_P D vwCl (wr ++ W1 u) H1 → va_D A (wr ++ W1 u) → va_S A H0 H1 locs1 → W p l e R s m args below meth c H1 locs1 (cells + mc) (slots + ms) Q (F0 m (pc + 3) ls (.int (iI v) :: rest))) : W p l e R s m args below meth c H locs cells slots Q (F0 m pc ls st0) := by
  have hF := va_free (wc := W0) hD hS hA isC hC
  refine va_calli hr hS (fun q _ h => hF q h) hF (fun r u t H1 locs1 ht hvm hw hB hz1 hk1 hS1 => ?_)
  obtain ⟨v, rfl, hw⟩ := hw
  obtain ⟨hP1, hD1⟩ := hB
  rw [ht] at hP1
  obtain ⟨hP2, hD2⟩ := va_join hP hD isC isR hC hR hn hdis hk1 hF hP1 hD1
  exact k v u H1 locs1 hw hP2 hD2 hS1
theorem zc_l {post : Int → S → Prop} {mc ms : Nat} {W0 wr : va_W} {st0 : List Value} {aa : Array Value} (hr : va_Run p l e R s m args below meth c H locs cells slots mc ms (F0 m pc ls st0) rest (va_Ql (fun r u => ∃ v : Int, r = lI v ∧ post v u) (zB D (va_A W0 H.size) W1) (va_A W0 H.size) aa) (va_A W0 H.size))
    (hP : va_P D vwCl ws H) (hD : va_D A ws) (hS : va_S A H0 H locs) (hA : ∀ q : Nat, H0.size ≤ q → A q) (isC isR : List Nat) (hC : isC.map (fun i => ws[i]?) = W0.map some) (hR : isR.map (fun i => ws[i]?) = wr.map some) (hn : va_nd isR = true) (hdis : ∀ i ∈ isR, i ∉ isC)
    (k : ∀ (v : Int) (u : S) (H1 : Heap) (locs1 : List Loc), post v u → va_P D vwCl (wr ++ W1 u) H1 → va_D A (wr ++ W1 u) → va_S A H0 H1 locs1 → W p l e R s m args below meth c H1 locs1 (cells + mc) (slots + ms) Q (F0 m (pc + 3) ls (.long (lI v) :: rest))) : W p l e R s m args below meth c H locs cells slots Q (F0 m pc ls st0) := by
  have hF := va_free (wc := W0) hD hS hA isC hC
  refine va_calll hr hS (fun q _ h => hF q h) hF (fun r u t H1 locs1 ht hvm hw hB hz1 hk1 hS1 => ?_)
  obtain ⟨v, rfl, hw⟩ := hw
  obtain ⟨hP1, hD1⟩ := hB
  rw [ht] at hP1
  obtain ⟨hP2, hD2⟩ := va_join hP hD isC isR hC hR hn hdis hk1 hF hP1 hD1
  exact k v u H1 locs1 hw hP2 hD2 hS1
theorem zc_v {post : S → Prop} {mc ms : Nat} {W0 wr : va_W} {st0 : List Value} {aa : Array Value} (hr : va_Run p l e R s m args below meth c H locs cells slots mc ms (F0 m pc ls st0) rest (va_Qv post (zB D (va_A W0 H.size) W1) (va_A W0 H.size) aa) (va_A W0 H.size))
    (hP : va_P D vwCl ws H) (hD : va_D A ws) (hS : va_S A H0 H locs) (hA : ∀ q : Nat, H0.size ≤ q → A q) (isC isR : List Nat) (hC : isC.map (fun i => ws[i]?) = W0.map some) (hR : isR.map (fun i => ws[i]?) = wr.map some) (hn : va_nd isR = true) (hdis : ∀ i ∈ isR, i ∉ isC)
    (k : ∀ (u : S) (H1 : Heap) (locs1 : List Loc), post u → va_P D vwCl (wr ++ W1 u) H1 → va_D A (wr ++ W1 u) → va_S A H0 H1 locs1 → W p l e R s m args below meth c H1 locs1 (cells + mc) (slots + ms) Q (F0 m (pc + 3) ls rest)) : W p l e R s m args below meth c H locs cells slots Q (F0 m pc ls st0) := by
  have hF := va_free (wc := W0) hD hS hA isC hC
  refine va_callv hr hS (fun q _ h => hF q h) hF (fun u t H1 locs1 ht hvm hw hB hz1 hk1 hS1 => ?_)
  obtain ⟨hP1, hD1⟩ := hB
  rw [ht] at hP1
  obtain ⟨hP2, hD2⟩ := va_join hP hD isC isR hC hR hn hdis hk1 hF hP1 hD1
  exact k u H1 locs1 hw hP2 hD2 hS1
theorem zpS {av : List Value} {W0 : va_W} (hK : zK D tys s) (hP : va_P D vwCl ws H) (hD : va_D A ws) (isC : List Nat) (hC : isC.map (fun i => ws[i]?) = W0.map some) (hnd : va_nd isC = true) : PreS s H (zP D tys W0 H.size av) av :=
  ⟨zP.blind, fun U hU hW => ⟨rfl, by rw [hU], by rw [hU]; exact hP.sub isC (z_fm hC), hK.warm hW, (hD.sub isC hnd hC).weaken (fun _ _ _ _ => trivial)⟩⟩
theorem zpV {C : String} {b : Addr} {As : List Value} {W0 : va_W} (hK : zK D tys s) (hP : va_P D vwCl ws H) (hD : va_D A ws) (isC : List Nat) (hC : isC.map (fun i => ws[i]?) = W0.map some) (hnd : va_nd isC = true) (q0 : Nat) {ci : Nat} {fs : List Value} {T : u_T} {N : Nat} (he : ws[q0]? = some (b, .inr (ci, fs))) (hc : vwCl[ci]? = some (C, T, N)) : PreV s H C b (zP D tys W0 H.size (.ref b :: As)) As :=
  ⟨zP.blind, va_recv hK.1 hP (q := (C, T, N)) hc he, fun U hU hW => ⟨rfl, by rw [hU], by rw [hU]; exact hP.sub isC (z_fm hC), hK.warm hW, (hD.sub isC hnd hC).weaken (fun _ _ _ _ => trivial)⟩⟩
theorem zqS {av : List Value} {W0 : va_W} (hK : zK D tys s) (hP : va_P D vwCl ws H) (isC : List Nat) (hC : isC.map (fun i => ws[i]?) = W0.map some) : PreS s H (zQ D tys W0 av) av :=
  ⟨zQ.blind, fun U hU hW => ⟨rfl, by rw [hU]; exact hP.sub isC (z_fm hC), hK.warm hW⟩⟩
theorem zqV {C : String} {b : Addr} {As : List Value} {W0 : va_W} (hK : zK D tys s) (hP : va_P D vwCl ws H) (isC : List Nat) (hC : isC.map (fun i => ws[i]?) = W0.map some) (q0 : Nat) {ci : Nat} {fs : List Value} {T : u_T} {N : Nat} (he : ws[q0]? = some (b, .inr (ci, fs))) (hc : vwCl[ci]? = some (C, T, N)) : PreV s H C b (zQ D tys W0 (.ref b :: As)) As :=
  ⟨zQ.blind, va_recv hK.1 hP (q := (C, T, N)) hc he, fun U hU hW => ⟨rfl, by rw [hU]; exact hP.sub isC (z_fm hC), hK.warm hW⟩⟩
end ZENDS
end
section
abbrev zT (cI cJ cZ : ClassId) : List (ClassId × FieldType) := [(cI, .int), (cJ, .long), (cZ, .boolean)]
section ZMORE
variable {p : Program} {l : Launch} {e : Env} {R : Room} {s : State} {m : MethodId} {args : Array Value} {below : List Frame} {meth : Method} {c : Code} {H : Heap} {locs : List Loc} {cells slots : Nat} {Q : State → Prop} {cc : ByteArray} {pc : Nat} {ls : Array Slot} {rest : List Value}
theorem z_gen {Q0 : State → Prop} {g : JFrame} (k : ∀ Q : State → Prop, Q0 = Q → W p l e R s m args below meth c H locs cells slots Q g) : W p l e R s m args below meth c H locs cells slots Q0 g := k Q0 rfl
theorem zi_max (hx : p.tables.exec = Jvm.exec) (hb : c.code = cc) (hml : c.maxLocals = ls.size) {own : String} {index : Nat} (hown : s.vm.findClass own = some m.cls) (h1 : (Cond.methodLink own index Lib.Math.max.name).before args s = true) (h2 : (Cond.static Lib.Math.max.name).before args s = true) (h3 : (Cond.initialized "java/lang/Math").before args s = true) (h4 : (Cond.code Lib.Math.max.name Lib.Math.max.code 2 (some .int)).before args s = true)
    (h5 : 1 ≤ R.frames) (h6 : (rest.map fun v => v.category).sum + 13 ≤ R.locals) (h7 : cells ≤ R.cells) (h8 : slots ≤ R.slots) {a b : Int} (ha : zR a) (hb2 : zR b) (d : decode cc pc = .ok (.invokestatic index, 3))
    (k : W p l e R s m args below meth c H locs cells slots Q (F0 m (pc + 3) ls (.int (iI (max a b)) :: rest))) : W p l e R s m args below meth c H locs cells slots Q (F0 m pc ls (.int (iI b) :: .int (iI a) :: rest)) := by
  refine va_mmax hx hb hml hown h1 h2 h3 h4 h5 h6 h7 h8 d ?_
  have h := iI_lt ha hb2
  by_cases q : a < b
  · rw [if_pos (h.mpr q)]
    rw [Int.max_eq_right (by omega)] at k
    exact k
  · rw [if_neg (fun z => q (h.mp z))]
    rw [Int.max_eq_left (by omega)] at k
    exact k
theorem zi_min (hx : p.tables.exec = Jvm.exec) (hb : c.code = cc) (hml : c.maxLocals = ls.size) {own : String} {index : Nat} (hown : s.vm.findClass own = some m.cls) (h1 : (Cond.methodLink own index Lib.Math.min.name).before args s = true) (h2 : (Cond.static Lib.Math.min.name).before args s = true) (h3 : (Cond.initialized "java/lang/Math").before args s = true) (h4 : (Cond.code Lib.Math.min.name Lib.Math.min.code 2 (some .int)).before args s = true)
    (h5 : 1 ≤ R.frames) (h6 : (rest.map fun v => v.category).sum + 13 ≤ R.locals) (h7 : cells ≤ R.cells) (h8 : slots ≤ R.slots) {a b : Int} (ha : zR a) (hb2 : zR b) (d : decode cc pc = .ok (.invokestatic index, 3))
    (k : W p l e R s m args below meth c H locs cells slots Q (F0 m (pc + 3) ls (.int (iI (min a b)) :: rest))) : W p l e R s m args below meth c H locs cells slots Q (F0 m pc ls (.int (iI b) :: .int (iI a) :: rest)) := by
  refine va_mmin hx hb hml hown h1 h2 h3 h4 h5 h6 h7 h8 d ?_
  have h := iI_lt hb2 ha
  by_cases q : b < a
  · rw [if_pos (h.mpr q)]
    rw [Int.min_eq_right (by omega)] at k
    exact k
  · rw [if_neg (fun z => q (h.mp z))]
    rw [Int.min_eq_left (by omega)] at k
    exact k
theorem zl_max (hx : p.tables.exec = Jvm.exec) (hb : c.code = cc) (hml : c.maxLocals = ls.size) {own : String} {index : Nat} (hown : s.vm.findClass own = some m.cls) (h1 : (Cond.methodLink own index Lib.MathLoose.max_long.x).before args s = true) (h2 : (Cond.static Lib.MathLoose.max_long.x).before args s = true) (h3 : (Cond.initialized "java/lang/Math").before args s = true) (h4 : (Cond.code Lib.MathLoose.max_long.x Lib.MathLoose.max_long.code 4 (some .long)).before args s = true)
    (h5 : 1 ≤ R.frames) (h6 : (rest.map fun v => v.category).sum + 15 ≤ R.locals) (h7 : cells ≤ R.cells) (h8 : slots ≤ R.slots) {a b : Int} (ha : zRL a) (hb2 : zRL b) (d : decode cc pc = .ok (.invokestatic index, 3))
    (k : W p l e R s m args below meth c H locs cells slots Q (F0 m (pc + 3) ls (.long (lI (max a b)) :: rest))) : W p l e R s m args below meth c H locs cells slots Q (F0 m pc ls (.long (lI b) :: .long (lI a) :: rest)) := by
  refine va_mmax_long hx hb hml hown h1 h2 h3 h4 h5 h6 h7 h8 d ?_
  have h := lI_lt hb2 ha
  by_cases q : b < a
  · rw [if_pos (h.mpr q)]
    rw [Int.max_eq_left (by omega)] at k
    exact k
  · rw [if_neg (fun z => q (h.mp z))]
    rw [Int.max_eq_right (by omega)] at k
    exact k
theorem zl_min (hx : p.tables.exec = Jvm.exec) (hb : c.code = cc) (hml : c.maxLocals = ls.size) {own : String} {index : Nat} (hown : s.vm.findClass own = some m.cls) (h1 : (Cond.methodLink own index Lib.MathLoose.min_long.x).before args s = true) (h2 : (Cond.static Lib.MathLoose.min_long.x).before args s = true) (h3 : (Cond.initialized "java/lang/Math").before args s = true) (h4 : (Cond.code Lib.MathLoose.min_long.x Lib.MathLoose.min_long.code 4 (some .long)).before args s = true)
    (h5 : 1 ≤ R.frames) (h6 : (rest.map fun v => v.category).sum + 15 ≤ R.locals) (h7 : cells ≤ R.cells) (h8 : slots ≤ R.slots) {a b : Int} (ha : zRL a) (hb2 : zRL b) (d : decode cc pc = .ok (.invokestatic index, 3))
    (k : W p l e R s m args below meth c H locs cells slots Q (F0 m (pc + 3) ls (.long (lI (min a b)) :: rest))) : W p l e R s m args below meth c H locs cells slots Q (F0 m pc ls (.long (lI b) :: .long (lI a) :: rest)) := by
  refine va_mmin_long hx hb hml hown h1 h2 h3 h4 h5 h6 h7 h8 d ?_
  have h := lI_lt hb2 ha
  by_cases q : b < a
  · rw [if_pos (h.mpr q)]
    rw [Int.min_eq_right (by omega)] at k
    exact k
  · rw [if_neg (fun z => q (h.mp z))]
    rw [Int.min_eq_left (by omega)] at k
    exact k
end ZMORE
abbrev wRD (cI cJ cZ : ClassId) (h0 : Nat) (n : Nat) (f : Int → Int) : va_W := [(h0, zA cI n f)]
abbrev wNO (cI cJ cZ : ClassId)    : va_W := []
abbrev wSt (cI cJ cZ : ClassId) (h0 h1 h2 h3 : Nat)  (pw : Int → Int) (co : Int → Int) (la : Int → Int) : va_W := [(h0, .inr (6, [.ref h1, .ref h2, .ref h3])), (h1, zA cI 4 pw), (h2, zA cI 4 co), (h3, zA cI 4 la)]
abbrev wCl (cI cJ cZ : ClassId) (h0 h1 h2 h3 h4 h5 : Nat)  (cpar : Int → Int) (fr : Int → Int) (cdee : Int → Int) (use : Int → Int) (run : Int → Int) (nC : Int) : va_W := [(h0, .inr (1, [.ref h1, .ref h2, .ref h3, .ref h4, .ref h5, .int (iI nC)])), (h1, zA cI 8 cpar), (h2, zA cI 8 fr), (h3, zA cI 8 cdee), (h4, zA cI 8 use), (h5, zA cZ 8 run)]
abbrev wJb (cI cJ cZ : ClassId) (h0 h1 h2 h3 : Nat)  (due : Int → Int) (lat : Int → Int) (wk : Int → Int) (nJ : Int) : va_W := [(h0, .inr (3, [.ref h1, .ref h2, .ref h3, .int (iI nJ)])), (h1, zA cI 12 due), (h2, zA cI 12 lat), (h3, zA cI 12 wk)]
abbrev wId (cI cJ cZ : ClassId) (h0 h1 : Nat)  (len : Int → Int) (cnt : Int) : va_W := [(h0, .inr (2, [.ref h1, .int (iI cnt)])), (h1, zA cI 4 len)]
abbrev wLe (cI cJ cZ : ClassId) (h0 h1 : Nat)  (tin : Int → Int) (sp : Int) (pe : Int) (slp : Int) (late : Int) (srv : Int) : va_W := [(h0, .inr (4, [.ref h1, .long (lI sp), .long (lI pe), .int (iI slp), .int (iI late), .int (iI srv)])), (h1, zA cI 4 tin)]
abbrev wBa (cI cJ cZ : ClassId) (h0 h1 : Nat)  (hv : Int → Int) (av : Int) (bd : Int) (sh : Int) : va_W := [(h0, .inr (0, [.ref h1, .int (iI av), .int (iI bd), .int (iI sh)])), (h1, zA cI 24 hv)]
abbrev wPl (cI cJ cZ : ClassId) (h0 h1 h2 : Nat)  (sc : Int → Int) (lt : Int → Int) : va_W := [(h0, .inr (5, [.ref h1, .ref h2])), (h1, zAL cJ 402 sc), (h2, zAL cJ 402 lt)]
abbrev wPlJ (cI cJ cZ : ClassId) (h0 h1 h2 g0 g1 g2 g3 : Nat)  (sc : Int → Int) (lt : Int → Int) (due : Int → Int) (lat : Int → Int) (wk : Int → Int) (nJ : Int) : va_W := [(h0, .inr (5, [.ref h1, .ref h2])), (h1, zAL cJ 402 sc), (h2, zAL cJ 402 lt), (g0, .inr (3, [.ref g1, .ref g2, .ref g3, .int (iI nJ)])), (g1, zA cI 12 due), (g2, zA cI 12 lat), (g3, zA cI 12 wk)]
abbrev wPlJS (cI cJ cZ : ClassId) (h0 h1 h2 g0 g1 g2 g3 k0 k1 k2 k3 : Nat)  (sc : Int → Int) (lt : Int → Int) (due : Int → Int) (lat : Int → Int) (wk : Int → Int) (nJ : Int) (pw : Int → Int) (co : Int → Int) (la : Int → Int) : va_W := [(h0, .inr (5, [.ref h1, .ref h2])), (h1, zAL cJ 402 sc), (h2, zAL cJ 402 lt), (g0, .inr (3, [.ref g1, .ref g2, .ref g3, .int (iI nJ)])), (g1, zA cI 12 due), (g2, zA cI 12 lat), (g3, zA cI 12 wk), (k0, .inr (6, [.ref k1, .ref k2, .ref k3])), (k1, zA cI 4 pw), (k2, zA cI 4 co), (k3, zA cI 4 la)]
abbrev wP (cI cJ cZ : ClassId) (q : Nat → Nat)  (pw : Int → Int) (co : Int → Int) (la : Int → Int) (vo : Int → Int) (cpar : Int → Int) (fr : Int → Int) (cdee : Int → Int) (use : Int → Int) (run : Int → Int) (nC : Int) (tdue : Int → Int) (tlat : Int → Int) (twk : Int → Int) (nT : Int) (edue : Int → Int) (elat : Int → Int) (ewk : Int → Int) (nE : Int) (len : Int → Int) (cnt : Int) (tin : Int → Int) (sp : Int) (pe : Int) (slp : Int) (late : Int) (srv : Int) (hv : Int → Int) (av : Int) (bd : Int) (sh : Int) (sc : Int → Int) (lt : Int → Int) (rule : Int) (now : Int) (st : Int) (asl : Int) : va_W := [((q 0), .inr (7, [.ref (q 1), .ref (q 5), .ref (q 6), .ref (q 12), .ref (q 16), .ref (q 20), .ref (q 22), .ref (q 24), .ref (q 26), .int (iI rule), .int (iI now), .int (iI st), .int (iI asl)])), ((q 1), .inr (6, [.ref (q 2), .ref (q 3), .ref (q 4)])), ((q 2), zA cI 4 pw), ((q 3), zA cI 4 co), ((q 4), zA cI 4 la), ((q 5), zA cI 6 vo), ((q 6), .inr (1, [.ref (q 7), .ref (q 8), .ref (q 9), .ref (q 10), .ref (q 11), .int (iI nC)])), ((q 7), zA cI 8 cpar), ((q 8), zA cI 8 fr), ((q 9), zA cI 8 cdee), ((q 10), zA cI 8 use), ((q 11), zA cZ 8 run), ((q 12), .inr (3, [.ref (q 13), .ref (q 14), .ref (q 15), .int (iI nT)])), ((q 13), zA cI 12 tdue), ((q 14), zA cI 12 tlat), ((q 15), zA cI 12 twk), ((q 16), .inr (3, [.ref (q 17), .ref (q 18), .ref (q 19), .int (iI nE)])), ((q 17), zA cI 12 edue), ((q 18), zA cI 12 elat), ((q 19), zA cI 12 ewk), ((q 20), .inr (2, [.ref (q 21), .int (iI cnt)])), ((q 21), zA cI 4 len), ((q 22), .inr (4, [.ref (q 23), .long (lI sp), .long (lI pe), .int (iI slp), .int (iI late), .int (iI srv)])), ((q 23), zA cI 4 tin), ((q 24), .inr (0, [.ref (q 25), .int (iI av), .int (iI bd), .int (iI sh)])), ((q 25), zA cI 24 hv), ((q 26), .inr (5, [.ref (q 27), .ref (q 28)])), ((q 27), zAL cJ 402 sc), ((q 28), zAL cJ 402 lt)]
abbrev wM (cI cJ cZ : ClassId) (q : Nat → Nat)  (pw : Int → Int) (co : Int → Int) (la : Int → Int) (vo : Int → Int) (nC : Int) (par : Int → Int) (div : Int → Int) (dee : Int → Int) (use : Int → Int) (mrun : Int → Int) (nT : Int) (due : Int → Int) (lat : Int → Int) (wk : Int → Int) (nE : Int) (tk : Int → Int) (ld : Int → Int) (rule : Int) (now : Int) (st : Int) (asl : Int) (idn : Int) (idl : Int → Int) (sp : Int) (pe : Int) (tin : Int → Int) (slp : Int) (late : Int) (srv : Int) (hv : Int → Int) (av : Int) (bd : Int) (sh : Int) (mL : Int → Int) (mB : Int → Int) (thr : Int) : va_W := [((q 0), .inr (8, [.ref (q 1), .ref (q 2), .ref (q 3), .ref (q 4), .int (iI nC), .ref (q 5), .ref (q 6), .ref (q 7), .ref (q 8), .ref (q 9), .int (iI nT), .ref (q 10), .ref (q 11), .ref (q 12), .int (iI nE), .ref (q 13), .ref (q 14), .int (iI rule), .int (iI now), .int (iI st), .int (iI asl), .int (iI idn), .ref (q 15), .long (lI sp), .long (lI pe), .ref (q 16), .int (iI slp), .int (iI late), .int (iI srv), .ref (q 17), .int (iI av), .int (iI bd), .int (iI sh), .ref (q 18), .ref (q 19), .int (iI thr)])), ((q 1), zA cI 4 pw), ((q 2), zA cI 4 co), ((q 3), zA cI 4 la), ((q 4), zA cI 6 vo), ((q 5), zA cI 8 par), ((q 6), zA cI 8 div), ((q 7), zA cI 8 dee), ((q 8), zA cI 8 use), ((q 9), zA cZ 8 mrun), ((q 10), zA cI 12 due), ((q 11), zA cI 12 lat), ((q 12), zA cI 12 wk), ((q 13), zA cI 12 tk), ((q 14), zA cI 12 ld), ((q 15), zA cI 4 idl), ((q 16), zA cI 4 tin), ((q 17), zA cI 24 hv), ((q 18), zAL cJ 401 mL), ((q 19), zAL cJ 401 mB)]
end
section
def rdZ (f : Int → Int) (n : Nat) (i : Int) : Int := if 0 ≤ i ∧ i < n then f i else 0
def exZ (f : Int → Int) (n : Nat) (i x : Int) : Int → Int := if 0 ≤ i ∧ i < n then uZ f i x else f

def rmX7_isWithin : Room := { frames := 0, cells := 0, slots := 0, locals := 0 }
set_option maxRecDepth 100000 in
set_option maxHeartbeats 4000000 in
theorem kX7_isWithin (l : Launch) (dC : Nat → ClassId) (dI : Nat → Nat → Nat) (cI cJ cZ : ClassId)   (a0 a1 a2 : Int) (h0 : zR a0) (h1 : zR a1) (h2 : zR a2) : zPi l yX7_isWithin wsX7_isWithin rmX7_isWithin (dC, dI) (zT cI cJ cZ) (wNO cI cJ cZ ) [.int (iI a0), .int (iI a1), .int (iI a2)] (b2i (a1 ≤ a0 ∧ a0 ≤ a2)) := by
  refine zent_pi (cc := cX7_isWithin) (maxL := 3) (ret := (some .boolean)) (by decide) rfl (Nat.le_of_ble_eq_true rfl) ?_
  intro p e s m below meth c ls hE hP hK hl
  obtain ⟨hx, hb, hr, hml, hown, hts, hlocks, hmn⟩ := hE
  have hl : lv_has ls 3 [(0, .int (iI a0)), (1, .int (iI a1)), (2, .int (iI a2))] := hl
  refine z_gen (fun Q hQ => ?_)
  refine lv_iload_n hx hb dX7_isWithin_0 rfl (lv_at hl 0 rfl) ?_
  refine lv_iload_n hx hb dX7_isWithin_1 rfl (lv_at hl 1 rfl) ?_
  refine zi_clt (tgt := 14) hx hb (by omega) (by omega) dX7_isWithin_2 (by decide) (fun c_1 => ?_) (fun c_1 => ?_)
  · skip
    refine lv_iconst (v := iI 0) hx hb dX7_isWithin_14 rfl ?_
    subst hQ
    exact zret_pz hx hb hr hlocks dX7_isWithin_15 (by first | decide | omega) (by first | exact (b2i_t ⟨by omega, by omega⟩).symm | exact (b2i_f (by omega)).symm)
  · skip
    refine lv_iload_n hx hb dX7_isWithin_5 rfl (lv_at hl 0 rfl) ?_
    refine lv_iload_n hx hb dX7_isWithin_6 rfl (lv_at hl 2 rfl) ?_
    refine zi_cgt (tgt := 14) hx hb (by omega) (by omega) dX7_isWithin_7 (by decide) (fun c_2 => ?_) (fun c_2 => ?_)
    · skip
      refine lv_iconst (v := iI 0) hx hb dX7_isWithin_14 rfl ?_
      subst hQ
      exact zret_pz hx hb hr hlocks dX7_isWithin_15 (by first | decide | omega) (by first | exact (b2i_t ⟨by omega, by omega⟩).symm | exact (b2i_f (by omega)).symm)
    · skip
      refine lv_iconst (v := iI 1) hx hb dX7_isWithin_10 rfl ?_
      refine lv_goto (tgt := 15) hx hb dX7_isWithin_11 (by decide) ?_
      subst hQ
      exact zret_pz hx hb hr hlocks dX7_isWithin_15 (by first | decide | omega) (by first | exact (b2i_t ⟨by omega, by omega⟩).symm | exact (b2i_f (by omega)).symm)
def rmX7_read : Room := { frames := 0, cells := 0, slots := 0, locals := 0 }
set_option maxRecDepth 100000 in
set_option maxHeartbeats 4000000 in
theorem kX7_read (l : Launch) (dC : Nat → ClassId) (dI : Nat → Nat → Nat) (cI cJ cZ : ClassId) (h0 : Nat) (n : Nat) (f : Int → Int) (i : Int) (hi : zR i) (hn : n ≤ 1000) : zPi l yX7_read wsX7_read rmX7_read (dC, dI) (zT cI cJ cZ) (wRD cI cJ cZ h0 n f) [.ref h0, .int (iI i)] (rdZ f n i) := by
  refine zent_pi (cc := cX7_read) (maxL := 2) (ret := (some .int)) (by decide) rfl (Nat.le_of_ble_eq_true rfl) ?_
  intro p e s m below meth c ls hE hP hK hl
  obtain ⟨hx, hb, hr, hml, hown, hts, hlocks, hmn⟩ := hE
  have hl : lv_has ls 2 [(0, .ref h0), (1, .int (iI i))] := hl
  refine z_gen (fun Q hQ => ?_)
  refine lv_iload_n hx hb dX7_read_0 rfl (lv_at hl 1 rfl) ?_
  refine zi_flt (tgt := 16) hx hb (by omega) dX7_read_1 (by decide) (fun c_1 => ?_) (fun c_1 => ?_)
  · skip
    refine lv_iconst (v := iI 0) hx hb dX7_read_16 rfl ?_
    subst hQ
    exact zret_pi hx hb hr hlocks dX7_read_17 (by first | exact (if_pos (by omega)).symm | exact (if_neg (by omega)).symm)
  · skip
    refine lv_iload_n hx hb dX7_read_4 rfl (lv_at hl 1 rfl) ?_
    refine lv_aload_n hx hb dX7_read_5 rfl (lv_at hl 0 rfl) ?_
    refine za_len hx hb hK hP 0 0 rfl rfl dX7_read_6 ?_
    refine zi_cge (tgt := 16) hx hb (by omega) (by omega) dX7_read_7 (by decide) (fun c_2 => ?_) (fun c_2 => ?_)
    · skip
      refine lv_iconst (v := iI 0) hx hb dX7_read_16 rfl ?_
      subst hQ
      exact zret_pi hx hb hr hlocks dX7_read_17 (by first | exact (if_pos (by omega)).symm | exact (if_neg (by omega)).symm)
    · skip
      refine lv_aload_n hx hb dX7_read_10 rfl (lv_at hl 0 rfl) ?_
      refine lv_iload_n hx hb dX7_read_11 rfl (lv_at hl 1 rfl) ?_
      refine za_ld hx hb hK hP 0 0 rfl rfl (by omega) (by omega) dX7_read_12 ?_
      refine lv_goto (tgt := 17) hx hb dX7_read_13 (by decide) ?_
      subst hQ
      exact zret_pi hx hb hr hlocks dX7_read_17 (by first | exact (if_pos (by omega)).symm | exact (if_neg (by omega)).symm)
def rmX7_exchange : Room := { frames := 0, cells := 0, slots := 0, locals := 0 }
set_option maxRecDepth 100000 in
set_option maxHeartbeats 4000000 in
theorem kX7_exchange (l : Launch) (dC : Nat → ClassId) (dI : Nat → Nat → Nat) (cI cJ cZ : ClassId) (h0 : Nat) (n : Nat) (f : Int → Int) (i x : Int) (hi : zR i) (hn : n ≤ 1000) : zMi l yX7_exchange wsX7_exchange rmX7_exchange (dC, dI) (zT cI cJ cZ) (wRD cI cJ cZ h0 n f) [.ref h0, .int (iI i), .int (iI x)] (fun (r9 : Int) (_ : Unit) => r9 = rdZ f n i) (fun _ : Unit => wRD cI cJ cZ h0 n (exZ f n i x)) 0 0 := by
  refine zent_i (cc := cX7_exchange) (maxL := 4) (ret := (some .int)) (by decide) rfl (Nat.le_of_ble_eq_true rfl) ?_
  intro p e s m below meth c A ls hE hP hK hA hD hS hl
  obtain ⟨hx, hb, hr, hml, hown, hts, hlocks, hmn⟩ := hE
  have hl : lv_has ls 4 [(0, .ref h0), (1, .int (iI i)), (2, .int (iI x))] := hl
  refine z_gen (fun Q hQ => ?_)
  refine lv_iload_n hx hb dX7_exchange_0 rfl (lv_at hl 1 rfl) ?_
  refine zi_flt (tgt := 10) hx hb (by omega) dX7_exchange_1 (by decide) (fun c_1 => ?_) (fun c_1 => ?_)
  · skip
    refine lv_iconst (v := iI 0) hx hb dX7_exchange_10 rfl ?_
    subst hQ
    have w_2 : exZ f n i x = f := by first | exact if_pos (by omega) | exact if_neg (by omega)
    have hP : va_P (dC, dI) vwCl (wRD cI cJ cZ h0 n (exZ f n i x)) s.heap := by rw [w_2]; exact hP
    have hD : va_D A (wRD cI cJ cZ h0 n (exZ f n i x)) := by rw [w_2]; exact hD
    exact zret_i (W1 := fun _ : Unit => wRD cI cJ cZ h0 n (exZ f n i x)) () hx hb hr hP hD hS hlocks dX7_exchange_11 (by first | exact (if_pos (by omega)).symm | exact (if_neg (by omega)).symm)
  · skip
    refine lv_iload_n hx hb dX7_exchange_4 rfl (lv_at hl 1 rfl) ?_
    refine lv_aload_n hx hb dX7_exchange_5 rfl (lv_at hl 0 rfl) ?_
    refine za_len hx hb hK hP 0 0 rfl rfl dX7_exchange_6 ?_
    refine zi_clt (tgt := 12) hx hb (by omega) (by omega) dX7_exchange_7 (by decide) (fun c_3 => ?_) (fun c_3 => ?_)
    · skip
      refine lv_aload_n hx hb dX7_exchange_12 rfl (lv_at hl 0 rfl) ?_
      refine lv_iload_n hx hb dX7_exchange_13 rfl (lv_at hl 1 rfl) ?_
      refine za_ld hx hb hK hP 0 0 rfl rfl (by omega) (by omega) dX7_exchange_14 ?_
      refine lv_istore_n (lv' := [(3, .int (iI (f i))), (0, .ref h0), (1, .int (iI i)), (2, .int (iI x))]) hx hb dX7_exchange_15 rfl hl (by decide) rfl (fun ls hl => ?_)
      refine lv_aload_n hx hb dX7_exchange_16 rfl (lv_at hl 1 rfl) ?_
      refine lv_iload_n hx hb dX7_exchange_17 rfl (lv_at hl 2 rfl) ?_
      refine lv_iload_n hx hb dX7_exchange_18 rfl (lv_at hl 3 rfl) ?_
      refine za_st hx hb hK hP hD hS 0 0 rfl rfl (by omega) (by omega) dX7_exchange_19 (fun H locs hP hD hS => ?_)
      have hP : va_P (dC, dI) vwCl (wRD cI cJ cZ h0 n (uZ f i x)) H := hP
      have hD : va_D A (wRD cI cJ cZ h0 n (uZ f i x)) := hD
      refine lv_iload_n hx hb dX7_exchange_20 rfl (lv_at hl 0 rfl) ?_
      subst hQ
      have w_4 : exZ f n i x = uZ f i x := by first | exact if_pos (by omega) | exact if_neg (by omega)
      have hP : va_P (dC, dI) vwCl (wRD cI cJ cZ h0 n (exZ f n i x)) H := by rw [w_4]; exact hP
      have hD : va_D A (wRD cI cJ cZ h0 n (exZ f n i x)) := by rw [w_4]; exact hD
      exact zret_i (W1 := fun _ : Unit => wRD cI cJ cZ h0 n (exZ f n i x)) () hx hb hr hP hD hS hlocks dX7_exchange_21 (by first | exact (if_pos (by omega)).symm | exact (if_neg (by omega)).symm)
    · skip
      refine lv_iconst (v := iI 0) hx hb dX7_exchange_10 rfl ?_
      subst hQ
      have w_5 : exZ f n i x = f := by first | exact if_pos (by omega) | exact if_neg (by omega)
      have hP : va_P (dC, dI) vwCl (wRD cI cJ cZ h0 n (exZ f n i x)) s.heap := by rw [w_5]; exact hP
      have hD : va_D A (wRD cI cJ cZ h0 n (exZ f n i x)) := by rw [w_5]; exact hD
      exact zret_i (W1 := fun _ : Unit => wRD cI cJ cZ h0 n (exZ f n i x)) () hx hb hr hP hD hS hlocks dX7_exchange_11 (by first | exact (if_pos (by omega)).symm | exact (if_neg (by omega)).symm)
def rmX6_powerOf : Room := { frames := 1, cells := 0, slots := 0, locals := 21 }
set_option maxRecDepth 100000 in
set_option maxHeartbeats 4000000 in
theorem kX6_powerOf (l : Launch) (dC : Nat → ClassId) (dI : Nat → Nat → Nat) (cI cJ cZ : ClassId) (h0 h1 h2 h3 : Nat)  (pw : Int → Int) (co : Int → Int) (la : Int → Int) (st : Int) (hst : 0 ≤ st ∧ st ≤ 3) : zPi l yX6_powerOf wsX6_powerOf rmX6_powerOf (dC, dI) (zT cI cJ cZ) (wSt cI cJ cZ h0 h1 h2 h3 pw co la) [.ref h0, .int (iI st)] (pw st) := by
  refine zent_pi (cc := cX6_powerOf) (maxL := 2) (ret := (some .int)) (by decide) rfl (Nat.le_of_ble_eq_true rfl) ?_
  intro p e s m below meth c ls hE hP hK hl
  obtain ⟨hx, hb, hr, hml, hown, hts, hlocks, hmn⟩ := hE
  have hinX6 : ∀ w ∈ u_ws RX6 TX6 3, w ∈ wsX6_powerOf := by decide +kernel
  have hl : lv_has ls 2 [(0, .ref h0), (1, .int (iI st))] := hl
  refine z_gen (fun Q hQ => ?_)
  refine lv_aload_n hx hb dX6_powerOf_0 rfl (lv_at hl 0 rfl) ?_
  refine va_get (D := (dC, dI)) (ci := 6) (v := .ref h1) (C := RX6) (T := TX6) (N := 3) hx hb hts hinX6 hown hK.1 hP 0 rfl rfl 0 (by decide) (hts _ (List.mem_of_getElem? (i := 1) rfl)) (fun _ h9 => h9) rfl dX6_powerOf_1 ?_
  refine lv_iload_n hx hb dX6_powerOf_4 rfl (lv_at hl 1 rfl) ?_
  refine zc_pi (va_runSN (As := [.ref h1, .int (iI st)]) (rest := []) ⟨hx, hb, hml, hown, hts⟩ (kX7_read l dC dI cI cJ cZ h1 4 pw st (by first | assumption | omega) (by first | assumption | omega)) ⟨va_cnB 2 hts gX6_powerOf_X7_read_n25 rfl rfl rfl (hK.2.2 _ (List.mem_of_getElem? (i := 6) rfl)) (hts _ (List.mem_of_getElem? (i := 3) rfl)) (by decide +kernel) ⟨Nat.le_of_ble_eq_true rfl, Nat.le_of_ble_eq_true rfl⟩, (hts _ (List.mem_of_getElem? (i := 2) rfl)), trivial⟩ (zqS hK hP [1] rfl) rfl rfl hl.1 rfl (lv_room (Nat.le_of_ble_eq_true rfl)) dX6_powerOf_5 ⟨Nat.le_of_ble_eq_true rfl, Nat.le_of_ble_eq_true rfl⟩) ?_
  subst hQ
  exact zret_pi hx hb hr hlocks dX6_powerOf_8 (by exact if_pos (by omega))
def rmX6_costOf : Room := { frames := 1, cells := 0, slots := 0, locals := 21 }
set_option maxRecDepth 100000 in
set_option maxHeartbeats 4000000 in
theorem kX6_costOf (l : Launch) (dC : Nat → ClassId) (dI : Nat → Nat → Nat) (cI cJ cZ : ClassId) (h0 h1 h2 h3 : Nat)  (pw : Int → Int) (co : Int → Int) (la : Int → Int) (st : Int) (hst : 0 ≤ st ∧ st ≤ 3) : zPi l yX6_costOf wsX6_costOf rmX6_costOf (dC, dI) (zT cI cJ cZ) (wSt cI cJ cZ h0 h1 h2 h3 pw co la) [.ref h0, .int (iI st)] (co st) := by
  refine zent_pi (cc := cX6_costOf) (maxL := 2) (ret := (some .int)) (by decide) rfl (Nat.le_of_ble_eq_true rfl) ?_
  intro p e s m below meth c ls hE hP hK hl
  obtain ⟨hx, hb, hr, hml, hown, hts, hlocks, hmn⟩ := hE
  have hinX6 : ∀ w ∈ u_ws RX6 TX6 3, w ∈ wsX6_costOf := by decide +kernel
  have hl : lv_has ls 2 [(0, .ref h0), (1, .int (iI st))] := hl
  refine z_gen (fun Q hQ => ?_)
  refine lv_aload_n hx hb dX6_costOf_0 rfl (lv_at hl 0 rfl) ?_
  refine va_get (D := (dC, dI)) (ci := 6) (v := .ref h2) (C := RX6) (T := TX6) (N := 3) hx hb hts hinX6 hown hK.1 hP 0 rfl rfl 1 (by decide) (hts _ (List.mem_of_getElem? (i := 1) rfl)) (fun _ h9 => h9) rfl dX6_costOf_1 ?_
  refine lv_iload_n hx hb dX6_costOf_4 rfl (lv_at hl 1 rfl) ?_
  refine zc_pi (va_runSN (As := [.ref h2, .int (iI st)]) (rest := []) ⟨hx, hb, hml, hown, hts⟩ (kX7_read l dC dI cI cJ cZ h2 4 co st (by first | assumption | omega) (by first | assumption | omega)) ⟨va_cnB 2 hts gX6_costOf_X7_read_n25 rfl rfl rfl (hK.2.2 _ (List.mem_of_getElem? (i := 6) rfl)) (hts _ (List.mem_of_getElem? (i := 3) rfl)) (by decide +kernel) ⟨Nat.le_of_ble_eq_true rfl, Nat.le_of_ble_eq_true rfl⟩, (hts _ (List.mem_of_getElem? (i := 2) rfl)), trivial⟩ (zqS hK hP [2] rfl) rfl rfl hl.1 rfl (lv_room (Nat.le_of_ble_eq_true rfl)) dX6_costOf_5 ⟨Nat.le_of_ble_eq_true rfl, Nat.le_of_ble_eq_true rfl⟩) ?_
  subst hQ
  exact zret_pi hx hb hr hlocks dX6_costOf_8 (by exact if_pos (by omega))
def rmX6_latencyOf : Room := { frames := 1, cells := 0, slots := 0, locals := 21 }
set_option maxRecDepth 100000 in
set_option maxHeartbeats 4000000 in
theorem kX6_latencyOf (l : Launch) (dC : Nat → ClassId) (dI : Nat → Nat → Nat) (cI cJ cZ : ClassId) (h0 h1 h2 h3 : Nat)  (pw : Int → Int) (co : Int → Int) (la : Int → Int) (st : Int) (hst : 0 ≤ st ∧ st ≤ 3) : zPi l yX6_latencyOf wsX6_latencyOf rmX6_latencyOf (dC, dI) (zT cI cJ cZ) (wSt cI cJ cZ h0 h1 h2 h3 pw co la) [.ref h0, .int (iI st)] (la st) := by
  refine zent_pi (cc := cX6_latencyOf) (maxL := 2) (ret := (some .int)) (by decide) rfl (Nat.le_of_ble_eq_true rfl) ?_
  intro p e s m below meth c ls hE hP hK hl
  obtain ⟨hx, hb, hr, hml, hown, hts, hlocks, hmn⟩ := hE
  have hinX6 : ∀ w ∈ u_ws RX6 TX6 3, w ∈ wsX6_latencyOf := by decide +kernel
  have hl : lv_has ls 2 [(0, .ref h0), (1, .int (iI st))] := hl
  refine z_gen (fun Q hQ => ?_)
  refine lv_aload_n hx hb dX6_latencyOf_0 rfl (lv_at hl 0 rfl) ?_
  refine va_get (D := (dC, dI)) (ci := 6) (v := .ref h3) (C := RX6) (T := TX6) (N := 3) hx hb hts hinX6 hown hK.1 hP 0 rfl rfl 2 (by decide) (hts _ (List.mem_of_getElem? (i := 1) rfl)) (fun _ h9 => h9) rfl dX6_latencyOf_1 ?_
  refine lv_iload_n hx hb dX6_latencyOf_4 rfl (lv_at hl 1 rfl) ?_
  refine zc_pi (va_runSN (As := [.ref h3, .int (iI st)]) (rest := []) ⟨hx, hb, hml, hown, hts⟩ (kX7_read l dC dI cI cJ cZ h3 4 la st (by first | assumption | omega) (by first | assumption | omega)) ⟨va_cnB 2 hts gX6_latencyOf_X7_read_n25 rfl rfl rfl (hK.2.2 _ (List.mem_of_getElem? (i := 6) rfl)) (hts _ (List.mem_of_getElem? (i := 3) rfl)) (by decide +kernel) ⟨Nat.le_of_ble_eq_true rfl, Nat.le_of_ble_eq_true rfl⟩, (hts _ (List.mem_of_getElem? (i := 2) rfl)), trivial⟩ (zqS hK hP [3] rfl) rfl rfl hl.1 rfl (lv_room (Nat.le_of_ble_eq_true rfl)) dX6_latencyOf_5 ⟨Nat.le_of_ble_eq_true rfl, Nat.le_of_ble_eq_true rfl⟩) ?_
  subst hQ
  exact zret_pi hx hb hr hlocks dX6_latencyOf_8 (by exact if_pos (by omega))
end
