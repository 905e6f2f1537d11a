theorem dL_setState_0 : decode cL_setState 0 = .ok (.aload_n 0, 1) := by decide +kernel
theorem dL_setState_1 : decode cL_setState 1 = .ok (.iload_n 1, 1) := by decide +kernel
theorem dL_setState_2 : decode cL_setState 2 = .ok (.iload_n 2, 1) := by decide +kernel
theorem dL_setState_3 : decode cL_setState 3 = .ok (.iload_n 3, 1) := by decide +kernel
theorem dL_setState_4 : decode cL_setState 4 = .ok (.iload 4, 2) := by decide +kernel
theorem dL_setState_6 : decode cL_setState 6 = .ok (.invokevirtual 7, 3) := by decide +kernel
theorem dL_setState_9 : decode cL_setState 9 = .ok (.goto 7, 3) := by decide +kernel
theorem dL_setState_12 : decode cL_setState 12 = .ok (.astore 5, 2) := by decide +kernel
theorem dL_setState_14 : decode cL_setState 14 = .ok (.iconst 1, 1) := by decide +kernel
theorem dL_setState_15 : decode cL_setState 15 = .ok (.ireturn, 1) := by decide +kernel
theorem dL_setState_16 : decode cL_setState 16 = .ok (.iconst 0, 1) := by decide +kernel
theorem dL_setState_17 : decode cL_setState 17 = .ok (.ireturn, 1) := by decide +kernel
theorem dL_setAwake_0 : decode cL_setAwake 0 = .ok (.aload_n 2, 1) := by decide +kernel
theorem dL_setAwake_1 : decode cL_setAwake 1 = .ok (.iconst 0, 1) := by decide +kernel
theorem dL_setAwake_2 : decode cL_setAwake 2 = .ok (.aload_n 0, 1) := by decide +kernel
theorem dL_setAwake_3 : decode cL_setAwake 3 = .ok (.iload_n 1, 1) := by decide +kernel
theorem dL_setAwake_4 : decode cL_setAwake 4 = .ok (.invokevirtual 15, 3) := by decide +kernel
theorem dL_setAwake_7 : decode cL_setAwake 7 = .ok (.i2l, 1) := by decide +kernel
theorem dL_setAwake_8 : decode cL_setAwake 8 = .ok (.lastore, 1) := by decide +kernel
theorem dL_setAwake_9 : decode cL_setAwake 9 = .ok (.goto 6, 3) := by decide +kernel
theorem dL_setAwake_12 : decode cL_setAwake 12 = .ok (.astore_n 3, 1) := by decide +kernel
theorem dL_setAwake_13 : decode cL_setAwake 13 = .ok (.iconst 1, 1) := by decide +kernel
theorem dL_setAwake_14 : decode cL_setAwake 14 = .ok (.ireturn, 1) := by decide +kernel
theorem dL_setAwake_15 : decode cL_setAwake 15 = .ok (.iconst 0, 1) := by decide +kernel
theorem dL_setAwake_16 : decode cL_setAwake 16 = .ok (.ireturn, 1) := by decide +kernel
theorem dL_vote_0 : decode cL_vote 0 = .ok (.aload_n 3, 1) := by decide +kernel
theorem dL_vote_1 : decode cL_vote 1 = .ok (.iconst 0, 1) := by decide +kernel
theorem dL_vote_2 : decode cL_vote 2 = .ok (.aload_n 0, 1) := by decide +kernel
theorem dL_vote_3 : decode cL_vote 3 = .ok (.iload_n 1, 1) := by decide +kernel
theorem dL_vote_4 : decode cL_vote 4 = .ok (.iload_n 2, 1) := by decide +kernel
theorem dL_vote_5 : decode cL_vote 5 = .ok (.invokevirtual 19, 3) := by decide +kernel
theorem dL_vote_8 : decode cL_vote 8 = .ok (.i2l, 1) := by decide +kernel
theorem dL_vote_9 : decode cL_vote 9 = .ok (.lastore, 1) := by decide +kernel
theorem dL_vote_10 : decode cL_vote 10 = .ok (.goto 7, 3) := by decide +kernel
theorem dL_vote_13 : decode cL_vote 13 = .ok (.astore 4, 2) := by decide +kernel
theorem dL_vote_15 : decode cL_vote 15 = .ok (.iconst 1, 1) := by decide +kernel
theorem dL_vote_16 : decode cL_vote 16 = .ok (.ireturn, 1) := by decide +kernel
theorem dL_vote_17 : decode cL_vote 17 = .ok (.iconst 0, 1) := by decide +kernel
theorem dL_vote_18 : decode cL_vote 18 = .ok (.ireturn, 1) := by decide +kernel
theorem dL_addClock_0 : decode cL_addClock 0 = .ok (.aload 4, 2) := by decide +kernel
theorem dL_addClock_2 : decode cL_addClock 2 = .ok (.iconst 0, 1) := by decide +kernel
theorem dL_addClock_3 : decode cL_addClock 3 = .ok (.aload_n 0, 1) := by decide +kernel
theorem dL_addClock_4 : decode cL_addClock 4 = .ok (.iload_n 1, 1) := by decide +kernel
theorem dL_addClock_5 : decode cL_addClock 5 = .ok (.iload_n 2, 1) := by decide +kernel
theorem dL_addClock_6 : decode cL_addClock 6 = .ok (.iload_n 3, 1) := by decide +kernel
theorem dL_addClock_7 : decode cL_addClock 7 = .ok (.invokevirtual 23, 3) := by decide +kernel
theorem dL_addClock_10 : decode cL_addClock 10 = .ok (.i2l, 1) := by decide +kernel
theorem dL_addClock_11 : decode cL_addClock 11 = .ok (.lastore, 1) := by decide +kernel
theorem dL_addClock_12 : decode cL_addClock 12 = .ok (.goto 15, 3) := by decide +kernel
theorem dL_addClock_15 : decode cL_addClock 15 = .ok (.astore 5, 2) := by decide +kernel
theorem dL_addClock_17 : decode cL_addClock 17 = .ok (.iconst 1, 1) := by decide +kernel
theorem dL_addClock_18 : decode cL_addClock 18 = .ok (.ireturn, 1) := by decide +kernel
theorem dL_addClock_19 : decode cL_addClock 19 = .ok (.astore 5, 2) := by decide +kernel
theorem dL_addClock_21 : decode cL_addClock 21 = .ok (.iconst 2, 1) := by decide +kernel
theorem dL_addClock_22 : decode cL_addClock 22 = .ok (.ireturn, 1) := by decide +kernel
theorem dL_addClock_23 : decode cL_addClock 23 = .ok (.astore 5, 2) := by decide +kernel
theorem dL_addClock_25 : decode cL_addClock 25 = .ok (.iconst 3, 1) := by decide +kernel
theorem dL_addClock_26 : decode cL_addClock 26 = .ok (.ireturn, 1) := by decide +kernel
theorem dL_addClock_27 : decode cL_addClock 27 = .ok (.iconst 0, 1) := by decide +kernel
theorem dL_addClock_28 : decode cL_addClock 28 = .ok (.ireturn, 1) := by decide +kernel
theorem dL_use_0 : decode cL_use 0 = .ok (.aload_n 2, 1) := by decide +kernel
theorem dL_use_1 : decode cL_use 1 = .ok (.iconst 0, 1) := by decide +kernel
theorem dL_use_2 : decode cL_use 2 = .ok (.aload_n 0, 1) := by decide +kernel
theorem dL_use_3 : decode cL_use 3 = .ok (.iload_n 1, 1) := by decide +kernel
theorem dL_use_4 : decode cL_use 4 = .ok (.invokevirtual 31, 3) := by decide +kernel
theorem dL_use_7 : decode cL_use 7 = .ok (.i2l, 1) := by decide +kernel
theorem dL_use_8 : decode cL_use 8 = .ok (.lastore, 1) := by decide +kernel
theorem dL_use_9 : decode cL_use 9 = .ok (.goto 9, 3) := by decide +kernel
theorem dL_use_12 : decode cL_use 12 = .ok (.astore_n 3, 1) := by decide +kernel
theorem dL_use_13 : decode cL_use 13 = .ok (.iconst 1, 1) := by decide +kernel
theorem dL_use_14 : decode cL_use 14 = .ok (.ireturn, 1) := by decide +kernel
theorem dL_use_15 : decode cL_use 15 = .ok (.astore_n 3, 1) := by decide +kernel
theorem dL_use_16 : decode cL_use 16 = .ok (.iconst 2, 1) := by decide +kernel
theorem dL_use_17 : decode cL_use 17 = .ok (.ireturn, 1) := by decide +kernel
theorem dL_use_18 : decode cL_use 18 = .ok (.iconst 0, 1) := by decide +kernel
theorem dL_use_19 : decode cL_use 19 = .ok (.ireturn, 1) := by decide +kernel
theorem dL_release_0 : decode cL_release 0 = .ok (.aload_n 2, 1) := by decide +kernel
theorem dL_release_1 : decode cL_release 1 = .ok (.iconst 0, 1) := by decide +kernel
theorem dL_release_2 : decode cL_release 2 = .ok (.aload_n 0, 1) := by decide +kernel
theorem dL_release_3 : decode cL_release 3 = .ok (.iload_n 1, 1) := by decide +kernel
theorem dL_release_4 : decode cL_release 4 = .ok (.invokevirtual 34, 3) := by decide +kernel
theorem dL_release_7 : decode cL_release 7 = .ok (.i2l, 1) := by decide +kernel
theorem dL_release_8 : decode cL_release 8 = .ok (.lastore, 1) := by decide +kernel
theorem dL_release_9 : decode cL_release 9 = .ok (.goto 9, 3) := by decide +kernel
theorem dL_release_12 : decode cL_release 12 = .ok (.astore_n 3, 1) := by decide +kernel
theorem dL_release_13 : decode cL_release 13 = .ok (.iconst 1, 1) := by decide +kernel
theorem dL_release_14 : decode cL_release 14 = .ok (.ireturn, 1) := by decide +kernel
theorem dL_release_15 : decode cL_release 15 = .ok (.astore_n 3, 1) := by decide +kernel
theorem dL_release_16 : decode cL_release 16 = .ok (.iconst 2, 1) := by decide +kernel
theorem dL_release_17 : decode cL_release 17 = .ok (.ireturn, 1) := by decide +kernel
theorem dL_release_18 : decode cL_release 18 = .ok (.iconst 0, 1) := by decide +kernel
theorem dL_release_19 : decode cL_release 19 = .ok (.ireturn, 1) := by decide +kernel
theorem dL_runs_0 : decode cL_runs 0 = .ok (.aload_n 2, 1) := by decide +kernel
theorem dL_runs_1 : decode cL_runs 1 = .ok (.iconst 0, 1) := by decide +kernel
theorem dL_runs_2 : decode cL_runs 2 = .ok (.aload_n 0, 1) := by decide +kernel
theorem dL_runs_3 : decode cL_runs 3 = .ok (.iload_n 1, 1) := by decide +kernel
theorem dL_runs_4 : decode cL_runs 4 = .ok (.invokevirtual 37, 3) := by decide +kernel
theorem dL_runs_7 : decode cL_runs 7 = .ok (.ifCond .eq 7, 3) := by decide +kernel
theorem dL_runs_10 : decode cL_runs 10 = .ok (.lconst 1, 1) := by decide +kernel
theorem dL_runs_11 : decode cL_runs 11 = .ok (.goto 4, 3) := by decide +kernel
theorem dL_runs_14 : decode cL_runs 14 = .ok (.lconst 0, 1) := by decide +kernel
theorem dL_runs_15 : decode cL_runs 15 = .ok (.lastore, 1) := by decide +kernel
theorem dL_runs_16 : decode cL_runs 16 = .ok (.goto 6, 3) := by decide +kernel
theorem dL_runs_19 : decode cL_runs 19 = .ok (.astore_n 3, 1) := by decide +kernel
theorem dL_runs_20 : decode cL_runs 20 = .ok (.iconst 1, 1) := by decide +kernel
theorem dL_runs_21 : decode cL_runs 21 = .ok (.ireturn, 1) := by decide +kernel
theorem dL_runs_22 : decode cL_runs 22 = .ok (.iconst 0, 1) := by decide +kernel
theorem dL_runs_23 : decode cL_runs 23 = .ok (.ireturn, 1) := by decide +kernel
theorem dL_frequency_0 : decode cL_frequency 0 = .ok (.aload_n 2, 1) := by decide +kernel
theorem dL_frequency_1 : decode cL_frequency 1 = .ok (.iconst 0, 1) := by decide +kernel
theorem dL_frequency_2 : decode cL_frequency 2 = .ok (.aload_n 0, 1) := by decide +kernel
theorem dL_frequency_3 : decode cL_frequency 3 = .ok (.iload_n 1, 1) := by decide +kernel
theorem dL_frequency_4 : decode cL_frequency 4 = .ok (.invokevirtual 41, 3) := by decide +kernel
theorem dL_frequency_7 : decode cL_frequency 7 = .ok (.i2l, 1) := by decide +kernel
theorem dL_frequency_8 : decode cL_frequency 8 = .ok (.lastore, 1) := by decide +kernel
theorem dL_frequency_9 : decode cL_frequency 9 = .ok (.goto 6, 3) := by decide +kernel
theorem dL_frequency_12 : decode cL_frequency 12 = .ok (.astore_n 3, 1) := by decide +kernel
theorem dL_frequency_13 : decode cL_frequency 13 = .ok (.iconst 1, 1) := by decide +kernel
theorem dL_frequency_14 : decode cL_frequency 14 = .ok (.ireturn, 1) := by decide +kernel
theorem dL_frequency_15 : decode cL_frequency 15 = .ok (.iconst 0, 1) := by decide +kernel
theorem dL_frequency_16 : decode cL_frequency 16 = .ok (.ireturn, 1) := by decide +kernel
theorem dL_breakEven_0 : decode cL_breakEven 0 = .ok (.aload_n 2, 1) := by decide +kernel
theorem dL_breakEven_1 : decode cL_breakEven 1 = .ok (.iconst 0, 1) := by decide +kernel
theorem dL_breakEven_2 : decode cL_breakEven 2 = .ok (.aload_n 0, 1) := by decide +kernel
theorem dL_breakEven_3 : decode cL_breakEven 3 = .ok (.iload_n 1, 1) := by decide +kernel
theorem dL_breakEven_4 : decode cL_breakEven 4 = .ok (.invokevirtual 44, 3) := by decide +kernel
theorem dL_breakEven_7 : decode cL_breakEven 7 = .ok (.i2l, 1) := by decide +kernel
theorem dL_breakEven_8 : decode cL_breakEven 8 = .ok (.lastore, 1) := by decide +kernel
theorem dL_breakEven_9 : decode cL_breakEven 9 = .ok (.goto 6, 3) := by decide +kernel
theorem dL_breakEven_12 : decode cL_breakEven 12 = .ok (.astore_n 3, 1) := by decide +kernel
theorem dL_breakEven_13 : decode cL_breakEven 13 = .ok (.iconst 1, 1) := by decide +kernel
theorem dL_breakEven_14 : decode cL_breakEven 14 = .ok (.ireturn, 1) := by decide +kernel
theorem dL_breakEven_15 : decode cL_breakEven 15 = .ok (.iconst 0, 1) := by decide +kernel
theorem dL_breakEven_16 : decode cL_breakEven 16 = .ok (.ireturn, 1) := by decide +kernel
theorem dL_schedule_0 : decode cL_schedule 0 = .ok (.aload 4, 2) := by decide +kernel
theorem dL_schedule_2 : decode cL_schedule 2 = .ok (.iconst 0, 1) := by decide +kernel
theorem dL_schedule_3 : decode cL_schedule 3 = .ok (.aload_n 0, 1) := by decide +kernel
theorem dL_schedule_4 : decode cL_schedule 4 = .ok (.iload_n 1, 1) := by decide +kernel
theorem dL_schedule_5 : decode cL_schedule 5 = .ok (.iload_n 2, 1) := by decide +kernel
theorem dL_schedule_6 : decode cL_schedule 6 = .ok (.iload_n 3, 1) := by decide +kernel
theorem dL_schedule_7 : decode cL_schedule 7 = .ok (.invokevirtual 47, 3) := by decide +kernel
theorem dL_schedule_10 : decode cL_schedule 10 = .ok (.i2l, 1) := by decide +kernel
theorem dL_schedule_11 : decode cL_schedule 11 = .ok (.lastore, 1) := by decide +kernel
theorem dL_schedule_12 : decode cL_schedule 12 = .ok (.goto 11, 3) := by decide +kernel
theorem dL_schedule_15 : decode cL_schedule 15 = .ok (.astore 5, 2) := by decide +kernel
theorem dL_schedule_17 : decode cL_schedule 17 = .ok (.iconst 1, 1) := by decide +kernel
theorem dL_schedule_18 : decode cL_schedule 18 = .ok (.ireturn, 1) := by decide +kernel
theorem dL_schedule_19 : decode cL_schedule 19 = .ok (.astore 5, 2) := by decide +kernel
theorem dL_schedule_21 : decode cL_schedule 21 = .ok (.iconst 2, 1) := by decide +kernel
theorem dL_schedule_22 : decode cL_schedule 22 = .ok (.ireturn, 1) := by decide +kernel
theorem dL_schedule_23 : decode cL_schedule 23 = .ok (.iconst 0, 1) := by decide +kernel
theorem dL_schedule_24 : decode cL_schedule 24 = .ok (.ireturn, 1) := by decide +kernel
theorem dL_addEvent_0 : decode cL_addEvent 0 = .ok (.aload_n 3, 1) := by decide +kernel
theorem dL_addEvent_1 : decode cL_addEvent 1 = .ok (.iconst 0, 1) := by decide +kernel
theorem dL_addEvent_2 : decode cL_addEvent 2 = .ok (.aload_n 0, 1) := by decide +kernel
theorem dL_addEvent_3 : decode cL_addEvent 3 = .ok (.iload_n 1, 1) := by decide +kernel
theorem dL_addEvent_4 : decode cL_addEvent 4 = .ok (.iload_n 2, 1) := by decide +kernel
theorem dL_addEvent_5 : decode cL_addEvent 5 = .ok (.invokevirtual 50, 3) := by decide +kernel
theorem dL_addEvent_8 : decode cL_addEvent 8 = .ok (.i2l, 1) := by decide +kernel
theorem dL_addEvent_9 : decode cL_addEvent 9 = .ok (.lastore, 1) := by decide +kernel
theorem dL_addEvent_10 : decode cL_addEvent 10 = .ok (.goto 11, 3) := by decide +kernel
theorem dL_addEvent_13 : decode cL_addEvent 13 = .ok (.astore 4, 2) := by decide +kernel
theorem dL_addEvent_15 : decode cL_addEvent 15 = .ok (.iconst 1, 1) := by decide +kernel
theorem dL_addEvent_16 : decode cL_addEvent 16 = .ok (.ireturn, 1) := by decide +kernel
theorem dL_addEvent_17 : decode cL_addEvent 17 = .ok (.astore 4, 2) := by decide +kernel
theorem dL_addEvent_19 : decode cL_addEvent 19 = .ok (.iconst 2, 1) := by decide +kernel
theorem dL_addEvent_20 : decode cL_addEvent 20 = .ok (.ireturn, 1) := by decide +kernel
theorem dL_addEvent_21 : decode cL_addEvent 21 = .ok (.iconst 0, 1) := by decide +kernel
theorem dL_addEvent_22 : decode cL_addEvent 22 = .ok (.ireturn, 1) := by decide +kernel
theorem dL_setRule_0 : decode cL_setRule 0 = .ok (.aload_n 2, 1) := by decide +kernel
theorem dL_setRule_1 : decode cL_setRule 1 = .ok (.iconst 0, 1) := by decide +kernel
theorem dL_setRule_2 : decode cL_setRule 2 = .ok (.aload_n 0, 1) := by decide +kernel
theorem dL_setRule_3 : decode cL_setRule 3 = .ok (.iload_n 1, 1) := by decide +kernel
theorem dL_setRule_4 : decode cL_setRule 4 = .ok (.invokevirtual 53, 3) := by decide +kernel
theorem dL_setRule_7 : decode cL_setRule 7 = .ok (.i2l, 1) := by decide +kernel
theorem dL_setRule_8 : decode cL_setRule 8 = .ok (.lastore, 1) := by decide +kernel
theorem dL_setRule_9 : decode cL_setRule 9 = .ok (.goto 6, 3) := by decide +kernel
theorem dL_setRule_12 : decode cL_setRule 12 = .ok (.astore_n 3, 1) := by decide +kernel
theorem dL_setRule_13 : decode cL_setRule 13 = .ok (.iconst 1, 1) := by decide +kernel
theorem dL_setRule_14 : decode cL_setRule 14 = .ok (.ireturn, 1) := by decide +kernel
theorem dL_setRule_15 : decode cL_setRule 15 = .ok (.iconst 0, 1) := by decide +kernel
theorem dL_setRule_16 : decode cL_setRule 16 = .ok (.ireturn, 1) := by decide +kernel
theorem dL_play_0 : decode cL_play 0 = .ok (.aload_n 2, 1) := by decide +kernel
theorem dL_play_1 : decode cL_play 1 = .ok (.iconst 0, 1) := by decide +kernel
theorem dL_play_2 : decode cL_play 2 = .ok (.aload_n 0, 1) := by decide +kernel
theorem dL_play_3 : decode cL_play 3 = .ok (.iload_n 1, 1) := by decide +kernel
theorem dL_play_4 : decode cL_play 4 = .ok (.invokevirtual 56, 3) := by decide +kernel
theorem dL_play_7 : decode cL_play 7 = .ok (.i2l, 1) := by decide +kernel
theorem dL_play_8 : decode cL_play 8 = .ok (.lastore, 1) := by decide +kernel
theorem dL_play_9 : decode cL_play 9 = .ok (.goto 6, 3) := by decide +kernel
theorem dL_play_12 : decode cL_play 12 = .ok (.astore_n 3, 1) := by decide +kernel
theorem dL_play_13 : decode cL_play 13 = .ok (.iconst 1, 1) := by decide +kernel
theorem dL_play_14 : decode cL_play 14 = .ok (.ireturn, 1) := by decide +kernel
theorem dL_play_15 : decode cL_play 15 = .ok (.iconst 0, 1) := by decide +kernel
theorem dL_play_16 : decode cL_play 16 = .ok (.ireturn, 1) := by decide +kernel
theorem dL_ticksIn_0 : decode cL_ticksIn 0 = .ok (.aload_n 2, 1) := by decide +kernel
theorem dL_ticksIn_1 : decode cL_ticksIn 1 = .ok (.iconst 0, 1) := by decide +kernel
theorem dL_ticksIn_2 : decode cL_ticksIn 2 = .ok (.aload_n 0, 1) := by decide +kernel
theorem dL_ticksIn_3 : decode cL_ticksIn 3 = .ok (.iload_n 1, 1) := by decide +kernel
theorem dL_ticksIn_4 : decode cL_ticksIn 4 = .ok (.invokevirtual 59, 3) := by decide +kernel
theorem dL_ticksIn_7 : decode cL_ticksIn 7 = .ok (.i2l, 1) := by decide +kernel
theorem dL_ticksIn_8 : decode cL_ticksIn 8 = .ok (.lastore, 1) := by decide +kernel
theorem dL_ticksIn_9 : decode cL_ticksIn 9 = .ok (.goto 6, 3) := by decide +kernel
theorem dL_ticksIn_12 : decode cL_ticksIn 12 = .ok (.astore_n 3, 1) := by decide +kernel
theorem dL_ticksIn_13 : decode cL_ticksIn 13 = .ok (.iconst 1, 1) := by decide +kernel
theorem dL_ticksIn_14 : decode cL_ticksIn 14 = .ok (.ireturn, 1) := by decide +kernel
theorem dL_ticksIn_15 : decode cL_ticksIn 15 = .ok (.iconst 0, 1) := by decide +kernel
theorem dL_ticksIn_16 : decode cL_ticksIn 16 = .ok (.ireturn, 1) := by decide +kernel
theorem dL_setHarvest_0 : decode cL_setHarvest 0 = .ok (.aload_n 3, 1) := by decide +kernel
theorem dL_setHarvest_1 : decode cL_setHarvest 1 = .ok (.iconst 0, 1) := by decide +kernel
theorem dL_setHarvest_2 : decode cL_setHarvest 2 = .ok (.aload_n 0, 1) := by decide +kernel
theorem dL_setHarvest_3 : decode cL_setHarvest 3 = .ok (.iload_n 1, 1) := by decide +kernel
theorem dL_setHarvest_4 : decode cL_setHarvest 4 = .ok (.iload_n 2, 1) := by decide +kernel
theorem dL_setHarvest_5 : decode cL_setHarvest 5 = .ok (.invokevirtual 62, 3) := by decide +kernel
theorem dL_setHarvest_8 : decode cL_setHarvest 8 = .ok (.i2l, 1) := by decide +kernel
theorem dL_setHarvest_9 : decode cL_setHarvest 9 = .ok (.lastore, 1) := by decide +kernel
theorem dL_setHarvest_10 : decode cL_setHarvest 10 = .ok (.goto 7, 3) := by decide +kernel
theorem dL_setHarvest_13 : decode cL_setHarvest 13 = .ok (.astore 4, 2) := by decide +kernel
theorem dL_setHarvest_15 : decode cL_setHarvest 15 = .ok (.iconst 1, 1) := by decide +kernel
theorem dL_setHarvest_16 : decode cL_setHarvest 16 = .ok (.ireturn, 1) := by decide +kernel
theorem dL_setHarvest_17 : decode cL_setHarvest 17 = .ok (.iconst 0, 1) := by decide +kernel
theorem dL_setHarvest_18 : decode cL_setHarvest 18 = .ok (.ireturn, 1) := by decide +kernel
theorem dL_plannedWakeups_0 : decode cL_plannedWakeups 0 = .ok (.aload_n 2, 1) := by decide +kernel
theorem dL_plannedWakeups_1 : decode cL_plannedWakeups 1 = .ok (.iconst 0, 1) := by decide +kernel
theorem dL_plannedWakeups_2 : decode cL_plannedWakeups 2 = .ok (.aload_n 0, 1) := by decide +kernel
theorem dL_plannedWakeups_3 : decode cL_plannedWakeups 3 = .ok (.iload_n 1, 1) := by decide +kernel
theorem dL_plannedWakeups_4 : decode cL_plannedWakeups 4 = .ok (.invokevirtual 65, 3) := by decide +kernel
theorem dL_plannedWakeups_7 : decode cL_plannedWakeups 7 = .ok (.i2l, 1) := by decide +kernel
theorem dL_plannedWakeups_8 : decode cL_plannedWakeups 8 = .ok (.lastore, 1) := by decide +kernel
theorem dL_plannedWakeups_9 : decode cL_plannedWakeups 9 = .ok (.goto 6, 3) := by decide +kernel
theorem dL_plannedWakeups_12 : decode cL_plannedWakeups 12 = .ok (.astore_n 3, 1) := by decide +kernel
theorem dL_plannedWakeups_13 : decode cL_plannedWakeups 13 = .ok (.iconst 1, 1) := by decide +kernel
theorem dL_plannedWakeups_14 : decode cL_plannedWakeups 14 = .ok (.ireturn, 1) := by decide +kernel
theorem dL_plannedWakeups_15 : decode cL_plannedWakeups 15 = .ok (.iconst 0, 1) := by decide +kernel
theorem dL_plannedWakeups_16 : decode cL_plannedWakeups 16 = .ok (.ireturn, 1) := by decide +kernel
theorem dL_fewestWakeups_0 : decode cL_fewestWakeups 0 = .ok (.aload_n 2, 1) := by decide +kernel
theorem dL_fewestWakeups_1 : decode cL_fewestWakeups 1 = .ok (.iconst 0, 1) := by decide +kernel
theorem dL_fewestWakeups_2 : decode cL_fewestWakeups 2 = .ok (.aload_n 0, 1) := by decide +kernel
theorem dL_fewestWakeups_3 : decode cL_fewestWakeups 3 = .ok (.iload_n 1, 1) := by decide +kernel
theorem dL_fewestWakeups_4 : decode cL_fewestWakeups 4 = .ok (.invokevirtual 68, 3) := by decide +kernel
theorem dL_fewestWakeups_7 : decode cL_fewestWakeups 7 = .ok (.i2l, 1) := by decide +kernel
theorem dL_fewestWakeups_8 : decode cL_fewestWakeups 8 = .ok (.lastore, 1) := by decide +kernel
theorem dL_fewestWakeups_9 : decode cL_fewestWakeups 9 = .ok (.goto 6, 3) := by decide +kernel
theorem dL_fewestWakeups_12 : decode cL_fewestWakeups 12 = .ok (.astore_n 3, 1) := by decide +kernel
theorem dL_fewestWakeups_13 : decode cL_fewestWakeups 13 = .ok (.iconst 1, 1) := by decide +kernel
theorem dL_fewestWakeups_14 : decode cL_fewestWakeups 14 = .ok (.ireturn, 1) := by decide +kernel
theorem dL_fewestWakeups_15 : decode cL_fewestWakeups 15 = .ok (.iconst 0, 1) := by decide +kernel
theorem dL_fewestWakeups_16 : decode cL_fewestWakeups 16 = .ok (.ireturn, 1) := by decide +kernel
theorem dL_plannedCost_0 : decode cL_plannedCost 0 = .ok (.aload_n 2, 1) := by decide +kernel
theorem dL_plannedCost_1 : decode cL_plannedCost 1 = .ok (.iconst 0, 1) := by decide +kernel
theorem dL_plannedCost_2 : decode cL_plannedCost 2 = .ok (.aload_n 0, 1) := by decide +kernel
theorem dL_plannedCost_3 : decode cL_plannedCost 3 = .ok (.iload_n 1, 1) := by decide +kernel
theorem dL_plannedCost_4 : decode cL_plannedCost 4 = .ok (.invokevirtual 71, 3) := by decide +kernel
theorem dL_plannedCost_7 : decode cL_plannedCost 7 = .ok (.lastore, 1) := by decide +kernel
theorem dL_plannedCost_8 : decode cL_plannedCost 8 = .ok (.goto 6, 3) := by decide +kernel
theorem dL_plannedCost_11 : decode cL_plannedCost 11 = .ok (.astore_n 3, 1) := by decide +kernel
theorem dL_plannedCost_12 : decode cL_plannedCost 12 = .ok (.iconst 1, 1) := by decide +kernel
theorem dL_plannedCost_13 : decode cL_plannedCost 13 = .ok (.ireturn, 1) := by decide +kernel
theorem dL_plannedCost_14 : decode cL_plannedCost 14 = .ok (.iconst 0, 1) := by decide +kernel
theorem dL_plannedCost_15 : decode cL_plannedCost 15 = .ok (.ireturn, 1) := by decide +kernel
theorem dL_leastCost_0 : decode cL_leastCost 0 = .ok (.aload_n 2, 1) := by decide +kernel
theorem dL_leastCost_1 : decode cL_leastCost 1 = .ok (.iconst 0, 1) := by decide +kernel
theorem dL_leastCost_2 : decode cL_leastCost 2 = .ok (.aload_n 0, 1) := by decide +kernel
theorem dL_leastCost_3 : decode cL_leastCost 3 = .ok (.iload_n 1, 1) := by decide +kernel
theorem dL_leastCost_4 : decode cL_leastCost 4 = .ok (.invokevirtual 75, 3) := by decide +kernel
theorem dL_leastCost_7 : decode cL_leastCost 7 = .ok (.lastore, 1) := by decide +kernel
theorem dL_leastCost_8 : decode cL_leastCost 8 = .ok (.goto 6, 3) := by decide +kernel
theorem dL_leastCost_11 : decode cL_leastCost 11 = .ok (.astore_n 3, 1) := by decide +kernel
theorem dL_leastCost_12 : decode cL_leastCost 12 = .ok (.iconst 1, 1) := by decide +kernel
theorem dL_leastCost_13 : decode cL_leastCost 13 = .ok (.ireturn, 1) := by decide +kernel
theorem dL_leastCost_14 : decode cL_leastCost 14 = .ok (.iconst 0, 1) := by decide +kernel
theorem dL_leastCost_15 : decode cL_leastCost 15 = .ok (.ireturn, 1) := by decide +kernel
theorem dL_law_0 : decode cL_law 0 = .ok (.new 8, 3) := by decide +kernel
theorem dL_law_3 : decode cL_law 3 = .ok (.dup, 1) := by decide +kernel
theorem dL_law_4 : decode cL_law 4 = .ok (.invokespecial 78, 3) := by decide +kernel
theorem dL_law_7 : decode cL_law 7 = .ok (.astore_n 1, 1) := by decide +kernel
theorem dL_law_8 : decode cL_law 8 = .ok (.new 79, 3) := by decide +kernel
theorem dL_law_11 : decode cL_law 11 = .ok (.dup, 1) := by decide +kernel
theorem dL_law_12 : decode cL_law 12 = .ok (.invokespecial 81, 3) := by decide +kernel
theorem dL_law_15 : decode cL_law 15 = .ok (.astore_n 2, 1) := by decide +kernel
theorem dL_law_16 : decode cL_law 16 = .ok (.iconst 1, 1) := by decide +kernel
theorem dL_law_17 : decode cL_law 17 = .ok (.newarray .long, 2) := by decide +kernel
theorem dL_law_19 : decode cL_law 19 = .ok (.astore_n 3, 1) := by decide +kernel
theorem dL_law_20 : decode cL_law 20 = .ok (.iconst 0, 1) := by decide +kernel
theorem dL_law_21 : decode cL_law 21 = .ok (.istore 4, 2) := by decide +kernel
theorem dL_law_23 : decode cL_law 23 = .ok (.iload 4, 2) := by decide +kernel
theorem dL_law_25 : decode cL_law 25 = .ok (.aload_n 0, 1) := by decide +kernel
theorem dL_law_26 : decode cL_law 26 = .ok (.arraylength, 1) := by decide +kernel
theorem dL_law_27 : decode cL_law 27 = .ok (.iconst 5, 1) := by decide +kernel
theorem dL_law_28 : decode cL_law 28 = .ok (.isub, 1) := by decide +kernel
