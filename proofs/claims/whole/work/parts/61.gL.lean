set_option maxRecDepth 20000 in
theorem ggL_setState_X7_setState : GoodIn wsL_setState wsX7_setState := goodIn_ca (goodIn_r _ [6, 7, 8, 9, 10, 11, 5, 12, 13, 14, 15, 16, 17, 18, 19, 20, 21, 22, 23, 24, 25, 26, 27, 28, 29, 30, 31, 32, 33, 34, 35, 36, 37, 38, 39, 40, 41, 42, 43, 44, 45, 46, 47, 48, 49, 50, 51, 52, 53, 54, 55, 56, 57, 58, 59, 60, 61, 62, 63, 64, 65, 66, 67, 68, 69, 70, 71, 72, 73, 74, 75, 76, 77, 78, 79, 80, 81, 82, 83, 84, 85, 86, 87, 88, 89, 90, 91] (by decide +kernel) (by decide +kernel)) (goodIn_sub (fun _ h => List.mem_cons_of_mem _ (List.mem_append_right _ h)) (by decide +kernel))
set_option maxRecDepth 20000 in
theorem gL_setState_X7_setState : GoodIn wsL_setState (wsV RL 7 RX7 yX7_setState wsX7_setState) := goodIn_app (goodIn_of _ (by decide +kernel)) ggL_setState_X7_setState
set_option maxRecDepth 20000 in
theorem ggL_setAwake_X7_setAwake : GoodIn wsL_setAwake wsX7_setAwake := goodIn_ca (goodIn_r _ [6, 7, 8, 9, 10, 11, 5, 12, 13, 14, 15, 16, 17, 18, 19, 20, 21, 22, 23, 24, 25, 26, 27, 28, 29, 30, 31, 32, 33, 34, 35, 36, 37, 38, 39, 40, 41, 42, 43, 44, 45, 46, 47, 48, 49, 50, 51, 52, 53, 54, 55, 56, 57, 58, 59, 60, 61, 62, 63, 64, 65, 66, 67, 68, 69, 70, 71, 72, 73, 74, 75, 76, 77, 78, 79, 80, 81, 82, 83, 84, 85, 86, 87, 88, 89, 90, 91, 92] (by decide +kernel) (by decide +kernel)) (goodIn_sub (fun _ h => List.mem_cons_of_mem _ (List.mem_append_right _ h)) (by decide +kernel))
set_option maxRecDepth 20000 in
theorem gL_setAwake_X7_setAwake : GoodIn wsL_setAwake (wsV RL 15 RX7 yX7_setAwake wsX7_setAwake) := goodIn_app (goodIn_of _ (by decide +kernel)) ggL_setAwake_X7_setAwake
set_option maxRecDepth 20000 in
theorem ggL_vote_X7_vote : GoodIn wsL_vote wsX7_vote := goodIn_ca (goodIn_r _ [6, 7, 8, 9, 10, 11, 5, 12, 13, 14, 15, 16, 17, 18, 19, 20, 21, 22, 23, 24, 25, 26, 27, 28, 29, 30, 31, 32, 33, 34, 35, 36, 37, 38, 39, 40, 41, 42, 43, 44, 45, 46, 47, 48, 49, 50, 51, 52, 53, 54, 55, 56, 57, 58, 59, 60, 61, 62, 63, 64, 65, 66, 67, 68, 69, 70, 71, 72, 73, 74, 75, 76, 77, 78, 79, 80, 81, 82, 83, 84, 85, 86, 87, 88] (by decide +kernel) (by decide +kernel)) (goodIn_sub (fun _ h => List.mem_cons_of_mem _ (List.mem_append_right _ h)) (by decide +kernel))
set_option maxRecDepth 20000 in
theorem gL_vote_X7_vote : GoodIn wsL_vote (wsV RL 19 RX7 yX7_vote wsX7_vote) := goodIn_app (goodIn_of _ (by decide +kernel)) ggL_vote_X7_vote
set_option maxRecDepth 20000 in
theorem ggL_addClock_X7_addClock : GoodIn wsL_addClock wsX7_addClock := goodIn_ca (goodIn_ca (goodIn_ca (goodIn_r _ [8, 9, 10, 11, 12, 13, 14, 15, 16, 17, 18, 19, 20, 21, 22, 23, 7, 24, 25, 26, 27, 28, 29, 30, 31, 32, 33, 34, 35, 36, 37, 38, 39, 40, 41, 42, 43, 44, 45, 46, 47, 48, 49, 50, 51, 52, 53, 54, 55, 56, 57, 58, 59, 60, 61, 62, 63, 64, 65, 66, 67, 68, 69, 70, 71, 72, 73, 74, 75, 76, 77, 78, 79, 80, 81, 82, 83, 84, 85, 86, 87, 88, 89, 90, 91, 92, 93, 94, 95, 96, 97, 98, 99, 100, 101, 102, 103, 104, 105, 106, 107, 108, 109, 110, 111, 112, 113, 114, 115, 116] (by decide +kernel) (by decide +kernel)) (goodIn_sub (fun _ h => List.mem_cons_of_mem _ (List.mem_append_left _ (List.mem_append_left _ (List.mem_append_right _ h)))) (by decide +kernel))) (goodIn_sub (fun _ h => List.mem_cons_of_mem _ (List.mem_append_left _ (List.mem_append_right _ h))) (by decide +kernel))) (goodIn_sub (fun _ h => List.mem_cons_of_mem _ (List.mem_append_right _ h)) (by decide +kernel))
set_option maxRecDepth 20000 in
theorem gL_addClock_X7_addClock : GoodIn wsL_addClock (wsV RL 23 RX7 yX7_addClock wsX7_addClock) := goodIn_app (goodIn_of _ (by decide +kernel)) ggL_addClock_X7_addClock
set_option maxRecDepth 20000 in
theorem ggL_use_X7_use : GoodIn wsL_use wsX7_use := goodIn_ca (goodIn_ca (goodIn_r _ [7, 8, 9, 10, 11, 12, 13, 14, 15, 16, 17, 18, 19, 20, 21, 22, 23, 24, 6, 25, 26, 27, 28, 29, 30, 31, 32, 33, 34, 35, 36, 37, 38, 39, 40, 41, 42, 43, 44, 45, 46, 47, 48, 49, 50, 51, 52, 53, 54, 55, 56, 57, 58, 59, 60, 61, 62, 63, 64, 65, 66, 67, 68, 69, 70, 71, 72, 73, 74, 75, 76, 77, 78, 79, 80, 81, 82, 83, 84, 85, 86, 87, 88, 89, 90, 91, 92, 93, 94, 95, 96, 97, 98, 99, 100, 101, 102, 103, 104, 105, 106, 107, 108, 109] (by decide +kernel) (by decide +kernel)) (goodIn_sub (fun _ h => List.mem_cons_of_mem _ (List.mem_append_left _ (List.mem_append_right _ h))) (by decide +kernel))) (goodIn_sub (fun _ h => List.mem_cons_of_mem _ (List.mem_append_right _ h)) (by decide +kernel))
set_option maxRecDepth 20000 in
theorem gL_use_X7_use : GoodIn wsL_use (wsV RL 31 RX7 yX7_use wsX7_use) := goodIn_app (goodIn_of _ (by decide +kernel)) ggL_use_X7_use
set_option maxRecDepth 20000 in
theorem ggL_release_X7_release : GoodIn wsL_release wsX7_release := goodIn_ca (goodIn_ca (goodIn_r _ [7, 8, 9, 10, 11, 12, 13, 14, 15, 16, 17, 18, 19, 20, 21, 22, 23, 24, 6, 25, 26, 27, 28, 29, 30, 31, 32, 33, 34, 35, 36, 37, 38, 39, 40, 41, 42, 43, 44, 45, 46, 47, 48, 49, 50, 51, 52, 53, 54, 55, 56, 57, 58, 59, 60, 61, 62, 63, 64, 65, 66, 67, 68, 69, 70, 71, 72, 73, 74, 75, 76, 77, 78, 79, 80, 81, 82, 83, 84, 85, 86, 87, 88, 89, 90, 91, 92, 93, 94, 95, 96, 97, 98, 99, 100, 101, 102, 103, 104, 105, 106, 107, 108, 109] (by decide +kernel) (by decide +kernel)) (goodIn_sub (fun _ h => List.mem_cons_of_mem _ (List.mem_append_left _ (List.mem_append_right _ h))) (by decide +kernel))) (goodIn_sub (fun _ h => List.mem_cons_of_mem _ (List.mem_append_right _ h)) (by decide +kernel))
set_option maxRecDepth 20000 in
theorem gL_release_X7_release : GoodIn wsL_release (wsV RL 34 RX7 yX7_release wsX7_release) := goodIn_app (goodIn_of _ (by decide +kernel)) ggL_release_X7_release
set_option maxRecDepth 20000 in
theorem ggL_runs_X7_runs : GoodIn wsL_runs wsX7_runs := goodIn_ca (goodIn_r _ [6, 7, 8, 9, 10, 11, 12, 13, 14, 15, 16, 17, 18, 19, 20, 21, 22, 23, 24, 25, 26, 27, 28, 29, 30, 31, 32, 33, 34, 35, 36, 37, 38, 39, 40, 41, 42, 43, 44, 45, 46] (by decide +kernel) (by decide +kernel)) (goodIn_sub (fun _ h => List.mem_cons_of_mem _ (List.mem_append_right _ h)) (by decide +kernel))
set_option maxRecDepth 20000 in
theorem gL_runs_X7_runs : GoodIn wsL_runs (wsV RL 37 RX7 yX7_runs wsX7_runs) := goodIn_app (goodIn_of _ (by decide +kernel)) ggL_runs_X7_runs
set_option maxRecDepth 20000 in
theorem ggL_frequency_X7_frequency : GoodIn wsL_frequency wsX7_frequency := goodIn_ca (goodIn_r _ [6, 7, 8, 9, 10, 11, 12, 13, 14, 15, 16, 17, 18, 19, 20, 21, 5, 22, 23, 24, 25, 26, 27, 28, 29, 30, 31, 32, 33, 34, 35, 36, 37, 38, 39, 40, 41] (by decide +kernel) (by decide +kernel)) (goodIn_sub (fun _ h => List.mem_cons_of_mem _ (List.mem_append_right _ h)) (by decide +kernel))
set_option maxRecDepth 20000 in
theorem gL_frequency_X7_frequency : GoodIn wsL_frequency (wsV RL 41 RX7 yX7_frequency wsX7_frequency) := goodIn_app (goodIn_of _ (by decide +kernel)) ggL_frequency_X7_frequency
set_option maxRecDepth 20000 in
theorem ggL_breakEven_X7_breakEven : GoodIn wsL_breakEven wsX7_breakEven := goodIn_ca (goodIn_r _ [6, 7, 8, 9, 10, 11, 5, 12, 13, 14, 15, 16, 17, 18, 19, 20, 21, 22, 23, 24, 25, 26, 27, 28, 29, 30, 31, 32, 33, 34, 35, 36, 37, 38, 39, 40, 41, 42, 43, 44, 45, 46, 47, 48, 49, 50] (by decide +kernel) (by decide +kernel)) (goodIn_sub (fun _ h => List.mem_cons_of_mem _ (List.mem_append_right _ h)) (by decide +kernel))
set_option maxRecDepth 20000 in
theorem gL_breakEven_X7_breakEven : GoodIn wsL_breakEven (wsV RL 44 RX7 yX7_breakEven wsX7_breakEven) := goodIn_app (goodIn_of _ (by decide +kernel)) ggL_breakEven_X7_breakEven
set_option maxRecDepth 20000 in
theorem ggL_schedule_X7_schedule : GoodIn wsL_schedule wsX7_schedule := goodIn_ca (goodIn_ca (goodIn_r _ [7, 8, 9, 10, 11, 12, 13, 14, 15, 6, 16, 17, 18, 19, 20, 21, 22, 23, 24, 25, 26, 27, 28, 29, 30, 31, 32, 33, 34, 35, 36, 37, 38, 39, 40, 41, 42, 43, 44, 45, 46, 47, 48, 49, 50, 51, 52, 53, 54, 55, 56, 57, 58, 59, 60, 61, 62, 63, 64, 65, 66, 67, 68, 69, 70, 71, 72, 73, 74, 75, 76, 77, 78, 79, 80, 81, 82, 83, 84, 85, 86, 87, 88, 89, 90, 91, 92, 93, 94, 95, 96, 97, 98, 99, 100, 101, 102, 103, 104, 105, 106] (by decide +kernel) (by decide +kernel)) (goodIn_sub (fun _ h => List.mem_cons_of_mem _ (List.mem_append_left _ (List.mem_append_right _ h))) (by decide +kernel))) (goodIn_sub (fun _ h => List.mem_cons_of_mem _ (List.mem_append_right _ h)) (by decide +kernel))
set_option maxRecDepth 20000 in
theorem gL_schedule_X7_schedule : GoodIn wsL_schedule (wsV RL 47 RX7 yX7_schedule wsX7_schedule) := goodIn_app (goodIn_of _ (by decide +kernel)) ggL_schedule_X7_schedule
set_option maxRecDepth 20000 in
theorem ggL_addEvent_X7_addEvent : GoodIn wsL_addEvent wsX7_addEvent := goodIn_ca (goodIn_ca (goodIn_r _ [7, 8, 9, 10, 11, 12, 13, 14, 15, 6, 16, 17, 18, 19, 20, 21, 22, 23, 24, 25, 26, 27, 28, 29, 30, 31, 32, 33, 34, 35, 36, 37, 38, 39, 40, 41, 42, 43, 44, 45, 46, 47] (by decide +kernel) (by decide +kernel)) (goodIn_sub (fun _ h => List.mem_cons_of_mem _ (List.mem_append_left _ (List.mem_append_right _ h))) (by decide +kernel))) (goodIn_sub (fun _ h => List.mem_cons_of_mem _ (List.mem_append_right _ h)) (by decide +kernel))
set_option maxRecDepth 20000 in
theorem gL_addEvent_X7_addEvent : GoodIn wsL_addEvent (wsV RL 50 RX7 yX7_addEvent wsX7_addEvent) := goodIn_app (goodIn_of _ (by decide +kernel)) ggL_addEvent_X7_addEvent
set_option maxRecDepth 20000 in
theorem ggL_setRule_X7_setRule : GoodIn wsL_setRule wsX7_setRule := goodIn_ca (goodIn_r _ [6, 7, 8, 9, 10, 11, 5, 12, 13, 14, 15, 16, 17, 18, 19, 20, 21, 22, 23, 24, 25, 26, 27, 28, 29, 30, 31, 32, 33, 34, 35, 36, 37, 38, 39, 40, 41, 42, 43, 44, 45, 46, 47, 48, 49, 50, 51, 52, 53, 54, 55, 56, 57, 58, 59, 60, 61, 62, 63, 64, 65, 66, 67, 68, 69, 70, 71, 72, 73, 74, 75, 76, 77, 78, 79, 80, 81, 82, 83, 84, 85] (by decide +kernel) (by decide +kernel)) (goodIn_sub (fun _ h => List.mem_cons_of_mem _ (List.mem_append_right _ h)) (by decide +kernel))
set_option maxRecDepth 20000 in
theorem gL_setRule_X7_setRule : GoodIn wsL_setRule (wsV RL 53 RX7 yX7_setRule wsX7_setRule) := goodIn_app (goodIn_of _ (by decide +kernel)) ggL_setRule_X7_setRule
set_option maxRecDepth 20000 in
theorem ggL_play_X7_play : GoodIn wsL_play wsX7_play := goodIn_ca (goodIn_r _ [6, 7, 8, 9, 10, 11, 5, 12, 13, 14, 15, 16, 17, 18, 19, 20, 21, 22, 23, 24, 25, 26, 27, 28, 29, 30, 31, 32, 33, 34, 35, 36, 37, 38, 39, 40, 41, 42, 43, 44, 45, 46, 47, 48, 49, 50, 51, 52, 53, 54, 55, 56, 57, 58, 59, 60, 61, 62, 63, 64, 65, 66, 67, 68, 69, 70, 71, 72, 73, 74, 75, 76, 77, 78, 79, 80, 81, 82, 83, 84, 85, 86, 87, 88, 89, 90, 91, 92, 93, 94, 95, 96, 97, 98, 99, 100, 101, 102, 103, 104, 105, 106, 107, 108, 109, 110, 111, 112, 113, 114, 115, 116, 117, 118, 119, 120, 121, 122, 123, 124, 125, 126, 127, 128, 129, 130, 131, 132, 133, 134, 135, 136, 137, 138, 139, 140, 141, 142, 143, 144, 145, 146, 147, 148, 149, 150, 151, 152, 153, 154, 155, 156, 157, 158, 159, 160, 161, 162, 163, 164, 165, 166, 167, 168, 169, 170, 171, 172, 173, 174, 175, 176, 177, 178, 179, 180, 181, 182, 183, 184, 185, 186, 187, 188, 189, 190, 191, 192, 193, 194, 195, 196, 197, 198, 199, 200, 201, 202, 203, 204, 205, 206, 207, 208, 209, 210, 211, 212, 213, 214, 215, 216, 217, 218, 219, 220, 221, 222, 223, 224, 225, 226, 227, 228, 229, 230, 231, 232, 233, 234, 235, 236, 237, 238, 239, 240] (by decide +kernel) (by decide +kernel)) (goodIn_sub (fun _ h => List.mem_cons_of_mem _ (List.mem_append_right _ h)) (by decide +kernel))
set_option maxRecDepth 20000 in
theorem gL_play_X7_play : GoodIn wsL_play (wsV RL 56 RX7 yX7_play wsX7_play) := goodIn_app (goodIn_of _ (by decide +kernel)) ggL_play_X7_play
set_option maxRecDepth 20000 in
theorem ggL_ticksIn_X7_ticksIn : GoodIn wsL_ticksIn wsX7_ticksIn := goodIn_ca (goodIn_r _ [6, 7, 8, 9, 10, 11, 5, 12, 13, 14, 15, 16, 17, 18, 19, 20, 21, 22, 23, 24, 25, 26, 27, 28, 29, 30, 31, 32, 33, 34] (by decide +kernel) (by decide +kernel)) (goodIn_sub (fun _ h => List.mem_cons_of_mem _ (List.mem_append_right _ h)) (by decide +kernel))
set_option maxRecDepth 20000 in
theorem gL_ticksIn_X7_ticksIn : GoodIn wsL_ticksIn (wsV RL 59 RX7 yX7_ticksIn wsX7_ticksIn) := goodIn_app (goodIn_of _ (by decide +kernel)) ggL_ticksIn_X7_ticksIn
set_option maxRecDepth 20000 in
theorem ggL_setHarvest_X7_setHarvest : GoodIn wsL_setHarvest wsX7_setHarvest := goodIn_ca (goodIn_r _ [6, 7, 8, 9, 10, 11, 5, 12, 13, 14, 15, 16, 17, 18, 19, 20, 21, 22, 23, 24, 25, 26, 27, 28, 29, 30, 31, 32] (by decide +kernel) (by decide +kernel)) (goodIn_sub (fun _ h => List.mem_cons_of_mem _ (List.mem_append_right _ h)) (by decide +kernel))
set_option maxRecDepth 20000 in
theorem gL_setHarvest_X7_setHarvest : GoodIn wsL_setHarvest (wsV RL 62 RX7 yX7_setHarvest wsX7_setHarvest) := goodIn_app (goodIn_of _ (by decide +kernel)) ggL_setHarvest_X7_setHarvest
set_option maxRecDepth 20000 in
theorem ggL_plannedWakeups_X7_plannedWakeups : GoodIn wsL_plannedWakeups wsX7_plannedWakeups := goodIn_ca (goodIn_r _ [6, 7, 8, 9, 10, 11, 12, 13, 5, 14, 15, 16, 17, 18, 19, 20, 21, 22, 23, 24, 25, 26, 27, 28, 29, 30, 31, 32, 33, 34, 35, 36, 37, 38, 39, 40, 41, 42, 43, 44] (by decide +kernel) (by decide +kernel)) (goodIn_sub (fun _ h => List.mem_cons_of_mem _ (List.mem_append_right _ h)) (by decide +kernel))
set_option maxRecDepth 20000 in
theorem gL_plannedWakeups_X7_plannedWakeups : GoodIn wsL_plannedWakeups (wsV RL 65 RX7 yX7_plannedWakeups wsX7_plannedWakeups) := goodIn_app (goodIn_of _ (by decide +kernel)) ggL_plannedWakeups_X7_plannedWakeups
set_option maxRecDepth 20000 in
theorem ggL_fewestWakeups_X7_fewestWakeups : GoodIn wsL_fewestWakeups wsX7_fewestWakeups := goodIn_ca (goodIn_r _ [6, 7, 8, 9, 10, 11, 12, 13, 5, 14, 15, 16, 17, 18, 19, 20, 21, 22, 23, 24, 25, 26, 27, 28, 29, 30, 31, 32, 33, 34, 35, 36, 37, 38, 39, 40, 41, 42, 43, 44, 45, 46, 47, 48, 49, 50, 51, 52, 53, 54, 55, 56, 57, 58, 59, 60, 61, 62, 63, 64, 65, 66] (by decide +kernel) (by decide +kernel)) (goodIn_sub (fun _ h => List.mem_cons_of_mem _ (List.mem_append_right _ h)) (by decide +kernel))
set_option maxRecDepth 20000 in
theorem gL_fewestWakeups_X7_fewestWakeups : GoodIn wsL_fewestWakeups (wsV RL 68 RX7 yX7_fewestWakeups wsX7_fewestWakeups) := goodIn_app (goodIn_of _ (by decide +kernel)) ggL_fewestWakeups_X7_fewestWakeups
set_option maxRecDepth 20000 in
theorem ggL_plannedCost_X7_plannedCost : GoodIn wsL_plannedCost wsX7_plannedCost := goodIn_ca (goodIn_r _ [6, 7, 8, 9, 10, 11, 12, 13, 14, 5, 15, 16, 17, 18, 19, 20, 21, 22, 23, 24, 25, 26, 27, 28, 29, 30, 31, 32, 33, 34, 35, 36, 37, 38, 39, 40, 41, 42, 43, 44, 45, 46, 47, 48, 49, 50, 51, 52, 53, 54, 55, 56, 57, 58, 59, 60, 61, 62, 63, 64, 65, 66, 67, 68, 69, 70, 71, 72, 73, 74, 75, 76, 77, 78, 79, 80, 81, 82, 83, 84, 85, 86, 87, 88, 89, 90, 91, 92, 93, 94, 95, 96, 97, 98, 99, 100, 101, 102, 103, 104, 105, 106, 107, 108, 109, 110, 111, 112, 113, 114, 115, 116, 117, 118, 119, 120, 121, 122, 123, 124, 125] (by decide +kernel) (by decide +kernel)) (goodIn_sub (fun _ h => List.mem_cons_of_mem _ (List.mem_append_right _ h)) (by decide +kernel))
set_option maxRecDepth 20000 in
theorem gL_plannedCost_X7_plannedCost : GoodIn wsL_plannedCost (wsV RL 71 RX7 yX7_plannedCost wsX7_plannedCost) := goodIn_app (goodIn_of _ (by decide +kernel)) ggL_plannedCost_X7_plannedCost
set_option maxRecDepth 20000 in
theorem ggL_leastCost_X7_leastCost : GoodIn wsL_leastCost wsX7_leastCost := goodIn_ca (goodIn_r _ [6, 7, 8, 9, 10, 11, 12, 13, 14, 5, 15, 16, 17, 18, 19, 20, 21, 22, 23, 24, 25, 26, 27, 28, 29, 30, 31, 32, 33, 34, 35, 36, 37, 38, 39, 40, 41, 42, 43, 44, 45, 46, 47, 48, 49, 50, 51, 52, 53, 54, 55, 56, 57, 58, 59, 60, 61, 62, 63, 64, 65, 66, 67, 68, 69, 70, 71, 72, 73, 74, 75, 76, 77, 78, 79, 80, 81, 82, 83, 84, 85, 86, 87, 88, 89, 90, 91, 92, 93, 94, 95, 96, 97, 98, 99, 100, 101, 102, 103, 104, 105, 106, 107, 108, 109, 110, 111, 112, 113, 114, 115, 116, 117, 118, 119, 120, 121, 122, 123, 124, 125, 126, 127, 128, 129, 130, 131, 132, 133, 134, 135] (by decide +kernel) (by decide +kernel)) (goodIn_sub (fun _ h => List.mem_cons_of_mem _ (List.mem_append_right _ h)) (by decide +kernel))
set_option maxRecDepth 20000 in
theorem gL_leastCost_X7_leastCost : GoodIn wsL_leastCost (wsV RL 75 RX7 yX7_leastCost wsX7_leastCost) := goodIn_app (goodIn_of _ (by decide +kernel)) ggL_leastCost_X7_leastCost
set_option maxRecDepth 20000 in
theorem ggL_law_X7_init : GoodIn wsL_law wsX7_init := goodIn_r _ [9, 10, 11, 12, 13, 14, 15, 16, 17, 18, 19, 20, 21, 22, 23, 24, 25, 26, 27, 28, 29, 30, 31, 32, 33, 34, 35, 36, 37, 38, 39, 40, 41, 42, 43, 44, 45, 46, 47, 48, 49, 50, 51, 52, 53, 54, 55, 56, 57, 58, 59, 60, 61, 62, 63, 64, 65, 66, 67, 68, 69, 70, 71, 72, 73, 74, 75, 76, 77, 78, 79, 80, 81, 82, 83, 84, 85, 86, 87, 88, 89, 90, 91, 92, 93, 94, 95, 96, 97, 98, 99, 100, 101, 102, 103, 6, 104, 105, 865, 866, 867, 816, 817, 818, 819, 820, 821, 822, 823, 824, 825, 826, 827, 828, 868, 869, 870, 871, 872, 873, 874, 875, 876, 877, 878, 879, 880, 881, 882, 883, 884, 885, 886, 887, 888, 889, 890, 891] (by decide +kernel) (by decide +kernel)
set_option maxRecDepth 20000 in
theorem gL_law_X7_init : GoodIn wsL_law (wsX7_init) := ggL_law_X7_init
set_option maxRecDepth 20000 in
theorem ggL_law_X8_init : GoodIn wsL_law wsX8_init := goodIn_r _ [108, 109, 11, 12, 17, 110, 111, 112, 113, 114, 115, 116, 117, 118, 63, 119, 120, 121, 122, 123, 124, 125, 126, 127, 128, 129, 130, 131, 132, 6, 133, 134, 829, 830, 831, 832, 833, 834, 835, 836, 837, 838, 839, 840, 841, 842, 843, 844, 845, 846, 847, 848, 849, 850, 851, 852, 853, 854, 855, 856, 857, 858, 859, 860, 861, 862, 863, 864] (by decide +kernel) (by decide +kernel)
set_option maxRecDepth 20000 in
theorem gL_law_X8_init : GoodIn wsL_law (wsX8_init) := ggL_law_X8_init
set_option maxRecDepth 20000 in
theorem ggL_law_L_setState : GoodIn wsL_law wsL_setState := goodIn_ca (goodIn_r _ [138, 139, 140, 141, 142, 2, 143, 144, 145, 16, 146, 147, 148, 149, 150, 151, 152, 46, 35, 153, 154, 155, 15, 156, 157, 158, 159, 160, 52, 161, 162, 163, 164, 165, 166, 54, 167, 168, 169, 34, 170, 85, 86, 171, 172, 173, 174, 31, 45, 47, 175, 176, 177, 30, 178, 78, 79, 179, 180, 181, 182, 183, 184, 185, 186, 53, 187, 188, 816, 817, 818, 819, 820, 821, 822, 823, 824, 825, 826, 827, 828, 865, 866, 867, 880, 881, 882, 883, 884, 885, 878, 879] (by decide +kernel) (by decide +kernel)) (goodIn_sub (fun _ h => List.mem_append_left _ (List.mem_append_left _ (List.mem_append_right _ h))) (by decide +kernel))
set_option maxRecDepth 20000 in
theorem gL_law_L_setState : GoodIn wsL_law (va_wsS RL 82 yL_setState wsL_setState) := goodIn_app (goodIn_of _ (by decide +kernel)) ggL_law_L_setState
set_option maxRecDepth 20000 in
theorem ggL_law_X8_setState : GoodIn wsL_law wsX8_setState := goodIn_r _ [192, 110, 111, 112, 193, 194, 5, 195, 196, 197, 198, 199, 200, 201, 202, 203, 204, 205, 206, 207, 208, 209, 210, 211, 212, 213, 214, 215, 126, 216, 217, 218, 829, 830, 831, 832, 833, 834, 835, 836, 837, 838, 839, 840, 841, 842, 843, 844, 845, 846, 847, 848, 849, 850, 851, 852, 853, 854, 855, 856, 857, 858, 859, 860, 861, 862, 863, 864] (by decide +kernel) (by decide +kernel)
set_option maxRecDepth 20000 in
theorem gL_law_X8_setState : GoodIn wsL_law (wsV RL 87 RX8 yX8_setState wsX8_setState) := goodIn_app (goodIn_of _ (by decide +kernel)) ggL_law_X8_setState
set_option maxRecDepth 20000 in
theorem ggL_law_X8_thrown : GoodIn wsL_law wsX8_thrown := goodIn_r _ [222, 200, 829, 830, 831, 832, 833, 834, 835, 836, 837, 838, 839, 840, 841, 842, 843, 844, 845, 846, 847, 848, 849, 850, 851, 852, 853, 854, 855, 856, 857, 858, 859, 860, 861, 862, 863, 864] (by decide +kernel) (by decide +kernel)
set_option maxRecDepth 20000 in
theorem gL_law_X8_thrown : GoodIn wsL_law (wsV RL 88 RX8 yX8_thrown wsX8_thrown) := goodIn_app (goodIn_of _ (by decide +kernel)) ggL_law_X8_thrown
set_option maxRecDepth 20000 in
theorem ggL_law_L_setAwake : GoodIn wsL_law wsL_setAwake := goodIn_ca (goodIn_r _ [225, 139, 226, 227, 228, 2, 229, 144, 145, 16, 146, 147, 148, 149, 150, 151, 152, 46, 35, 153, 154, 155, 15, 156, 157, 158, 159, 160, 52, 161, 162, 163, 164, 165, 166, 54, 167, 168, 169, 34, 170, 85, 86, 171, 172, 173, 174, 31, 45, 47, 175, 176, 177, 30, 178, 78, 79, 179, 180, 181, 182, 230, 183, 184, 185, 186, 53, 187, 188, 816, 817, 818, 819, 820, 821, 822, 823, 824, 825, 826, 827, 828, 865, 866, 867, 880, 881, 882, 883, 884, 885, 878, 879] (by decide +kernel) (by decide +kernel)) (goodIn_sub (fun _ h => List.mem_append_left _ (List.mem_append_left _ (List.mem_append_right _ h))) (by decide +kernel))
set_option maxRecDepth 20000 in
theorem gL_law_L_setAwake : GoodIn wsL_law (va_wsS RL 92 yL_setAwake wsL_setAwake) := goodIn_app (goodIn_of _ (by decide +kernel)) ggL_law_L_setAwake
set_option maxRecDepth 20000 in
theorem ggL_law_X8_setAwake : GoodIn wsL_law wsX8_setAwake := goodIn_r _ [234, 110, 193, 194, 5, 195, 196, 197, 198, 199, 200, 201, 202, 203, 204, 205, 112, 206, 207, 208, 209, 210, 211, 212, 213, 214, 215, 126, 216, 217, 218, 829, 830, 831, 832, 833, 834, 835, 836, 837, 838, 839, 840, 841, 842, 843, 844, 845, 846, 847, 848, 849, 850, 851, 852, 853, 854, 855, 856, 857, 858, 859, 860, 861, 862, 863, 864] (by decide +kernel) (by decide +kernel)
set_option maxRecDepth 20000 in
theorem gL_law_X8_setAwake : GoodIn wsL_law (wsV RL 95 RX8 yX8_setAwake wsX8_setAwake) := goodIn_app (goodIn_of _ (by decide +kernel)) ggL_law_X8_setAwake
set_option maxRecDepth 20000 in
theorem ggL_law_L_vote : GoodIn wsL_law wsL_vote := goodIn_ca (goodIn_r _ [237, 139, 238, 239, 240, 2, 241, 144, 145, 18, 146, 147, 148, 149, 150, 151, 152, 46, 35, 16, 153, 154, 155, 15, 156, 157, 158, 159, 160, 52, 161, 162, 163, 164, 165, 166, 54, 167, 168, 169, 34, 170, 85, 86, 171, 172, 173, 174, 31, 45, 47, 175, 176, 177, 30, 178, 78, 79, 179, 180, 181, 182, 242, 187, 188, 816, 817, 818, 819, 820, 821, 822, 823, 824, 825, 826, 827, 828, 865, 866, 867, 880, 881, 882, 883, 884, 885, 878, 879] (by decide +kernel) (by decide +kernel)) (goodIn_sub (fun _ h => List.mem_append_left _ (List.mem_append_left _ (List.mem_append_right _ h))) (by decide +kernel))
set_option maxRecDepth 20000 in
theorem gL_law_L_vote : GoodIn wsL_law (va_wsS RL 96 yL_vote wsL_vote) := goodIn_app (goodIn_of _ (by decide +kernel)) ggL_law_L_vote
set_option maxRecDepth 20000 in
theorem ggL_law_X8_vote : GoodIn wsL_law wsX8_vote := goodIn_r _ [246, 113, 193, 194, 5, 195, 196, 197, 198, 199, 200, 201, 202, 203, 204, 205, 110, 112, 206, 207, 208, 209, 210, 211, 212, 213, 214, 215, 126, 216, 217, 218, 829, 830, 831, 832, 833, 834, 835, 836, 837, 838, 839, 840, 841, 842, 843, 844, 845, 846, 847, 848, 849, 850, 851, 852, 853, 854, 855, 856, 857, 858, 859, 860, 861, 862, 863, 864] (by decide +kernel) (by decide +kernel)
set_option maxRecDepth 20000 in
theorem gL_law_X8_vote : GoodIn wsL_law (wsV RL 99 RX8 yX8_vote wsX8_vote) := goodIn_app (goodIn_of _ (by decide +kernel)) ggL_law_X8_vote
set_option maxRecDepth 20000 in
theorem ggL_law_L_addClock : GoodIn wsL_law wsL_addClock := goodIn_ca (goodIn_ca (goodIn_ca (goodIn_r _ [249, 250, 139, 251, 252, 253, 254, 2, 255, 256, 257, 144, 145, 258, 259, 22, 260, 261, 262, 21, 263, 65, 146, 147, 148, 264, 265, 266, 267, 149, 150, 151, 152, 46, 35, 16, 153, 154, 155, 15, 156, 157, 158, 159, 160, 52, 161, 162, 163, 164, 165, 166, 54, 167, 168, 169, 34, 170, 85, 86, 171, 172, 173, 174, 31, 45, 47, 175, 176, 177, 30, 178, 78, 79, 179, 180, 181, 182, 268, 269, 270, 271, 59, 60, 61, 62, 272, 816, 817, 818, 819, 820, 821, 822, 823, 824, 825, 826, 827, 828, 868, 869, 870, 871, 872, 873, 865, 866, 867, 880, 881, 882, 883, 884, 885, 878, 879] (by decide +kernel) (by decide +kernel)) (goodIn_sub (fun _ h => List.mem_append_left _ (List.mem_append_right _ h)) (by decide +kernel))) (goodIn_sub (fun _ h => List.mem_append_left _ (List.mem_append_left _ (List.mem_append_right _ h))) (by decide +kernel))) (goodIn_sub (fun _ h => List.mem_append_right _ h) (by decide +kernel))
set_option maxRecDepth 20000 in
theorem gL_law_L_addClock : GoodIn wsL_law (va_wsS RL 100 yL_addClock wsL_addClock) := goodIn_app (goodIn_of _ (by decide +kernel)) ggL_law_L_addClock
set_option maxRecDepth 20000 in
theorem ggL_law_X8_addClock : GoodIn wsL_law wsX8_addClock := goodIn_r _ [276, 114, 115, 116, 117, 277, 278, 279, 5, 280, 196, 197, 198, 199, 200, 193, 194, 195, 281, 282, 283, 284, 201, 202, 203, 204, 205, 110, 112, 206, 207, 208, 209, 210, 211, 212, 213, 214, 215, 126, 216, 217, 218, 829, 830, 831, 832, 833, 834, 835, 836, 837, 838, 839, 840, 841, 842, 843, 844, 845, 846, 847, 848, 849, 850, 851, 852, 853, 854, 855, 856, 857, 858, 859, 860, 861, 862, 863, 864] (by decide +kernel) (by decide +kernel)
set_option maxRecDepth 20000 in
theorem gL_law_X8_addClock : GoodIn wsL_law (wsV RL 103 RX8 yX8_addClock wsX8_addClock) := goodIn_app (goodIn_of _ (by decide +kernel)) ggL_law_X8_addClock
set_option maxRecDepth 20000 in
theorem ggL_law_L_use : GoodIn wsL_law wsL_use := goodIn_ca (goodIn_ca (goodIn_r _ [287, 250, 251, 288, 289, 290, 2, 291, 256, 257, 258, 259, 22, 260, 261, 262, 21, 263, 65, 292, 293, 294, 295, 62, 161, 162, 149, 150, 151, 152, 46, 35, 16, 153, 154, 155, 15, 156, 157, 158, 159, 160, 52, 163, 164, 165, 166, 54, 167, 168, 169, 34, 170, 85, 86, 171, 172, 173, 174, 31, 45, 47, 175, 176, 177, 30, 178, 78, 79, 179, 180, 181, 182, 296, 297, 298, 299, 300, 187, 188, 816, 817, 818, 819, 820, 821, 822, 823, 824, 825, 826, 827, 828, 868, 869, 870, 871, 872, 873, 865, 866, 867, 880, 881, 882, 883, 884, 885, 878, 879] (by decide +kernel) (by decide +kernel)) (goodIn_sub (fun _ h => List.mem_append_left _ (List.mem_append_right _ h)) (by decide +kernel))) (goodIn_sub (fun _ h => List.mem_append_right _ h) (by decide +kernel))
set_option maxRecDepth 20000 in
theorem gL_law_L_use : GoodIn wsL_law (va_wsS RL 104 yL_use wsL_use) := goodIn_app (goodIn_of _ (by decide +kernel)) ggL_law_L_use
set_option maxRecDepth 20000 in
theorem ggL_law_X8_use : GoodIn wsL_law wsX8_use := goodIn_r _ [304, 118, 277, 278, 279, 5, 280, 114, 196, 197, 198, 199, 200, 281, 282, 283, 284, 201, 202, 203, 204, 205, 110, 112, 206, 207, 208, 209, 210, 211, 212, 213, 214, 215, 126, 216, 217, 218, 829, 830, 831, 832, 833, 834, 835, 836, 837, 838, 839, 840, 841, 842, 843, 844, 845, 846, 847, 848, 849, 850, 851, 852, 853, 854, 855, 856, 857, 858, 859, 860, 861, 862, 863, 864] (by decide +kernel) (by decide +kernel)
set_option maxRecDepth 20000 in
theorem gL_law_X8_use : GoodIn wsL_law (wsV RL 106 RX8 yX8_use wsX8_use) := goodIn_app (goodIn_of _ (by decide +kernel)) ggL_law_X8_use
set_option maxRecDepth 20000 in
theorem ggL_law_L_release : GoodIn wsL_law wsL_release := goodIn_ca (goodIn_ca (goodIn_r _ [307, 250, 251, 308, 309, 310, 2, 311, 256, 257, 258, 259, 22, 260, 261, 262, 21, 263, 65, 292, 293, 294, 295, 62, 161, 162, 149, 150, 151, 152, 46, 35, 16, 153, 154, 155, 15, 156, 157, 158, 159, 160, 52, 163, 164, 165, 166, 54, 167, 168, 169, 34, 170, 85, 86, 171, 172, 173, 174, 31, 45, 47, 175, 176, 177, 30, 178, 78, 79, 179, 180, 181, 182, 296, 297, 298, 299, 300, 187, 188, 816, 817, 818, 819, 820, 821, 822, 823, 824, 825, 826, 827, 828, 868, 869, 870, 871, 872, 873, 865, 866, 867, 880, 881, 882, 883, 884, 885, 878, 879] (by decide +kernel) (by decide +kernel)) (goodIn_sub (fun _ h => List.mem_append_left _ (List.mem_append_right _ h)) (by decide +kernel))) (goodIn_sub (fun _ h => List.mem_append_right _ h) (by decide +kernel))
set_option maxRecDepth 20000 in
theorem gL_law_L_release : GoodIn wsL_law (va_wsS RL 107 yL_release wsL_release) := goodIn_app (goodIn_of _ (by decide +kernel)) ggL_law_L_release
set_option maxRecDepth 20000 in
theorem ggL_law_X8_release : GoodIn wsL_law wsX8_release := goodIn_r _ [315, 118, 277, 278, 279, 5, 280, 114, 196, 197, 198, 199, 200, 281, 282, 283, 284, 201, 202, 203, 204, 205, 110, 112, 206, 207, 208, 209, 210, 211, 212, 213, 214, 215, 126, 216, 217, 218, 829, 830, 831, 832, 833, 834, 835, 836, 837, 838, 839, 840, 841, 842, 843, 844, 845, 846, 847, 848, 849, 850, 851, 852, 853, 854, 855, 856, 857, 858, 859, 860, 861, 862, 863, 864] (by decide +kernel) (by decide +kernel)
set_option maxRecDepth 20000 in
theorem gL_law_X8_release : GoodIn wsL_law (wsV RL 109 RX8 yX8_release wsX8_release) := goodIn_app (goodIn_of _ (by decide +kernel)) ggL_law_X8_release
set_option maxRecDepth 20000 in
theorem ggL_law_L_runs : GoodIn wsL_law wsL_runs := goodIn_ca (goodIn_r _ [318, 250, 319, 320, 321, 2, 322, 256, 257, 22, 260, 261, 262, 21, 263, 65, 323, 324, 325, 326, 64, 327, 328, 329, 330, 62, 59, 331, 816, 817, 818, 819, 820, 821, 822, 823, 824, 825, 826, 827, 828, 868, 869, 870, 871, 872, 873] (by decide +kernel) (by decide +kernel)) (goodIn_sub (fun _ h => List.mem_append_left _ (List.mem_append_right _ h)) (by decide +kernel))
set_option maxRecDepth 20000 in
theorem gL_law_L_runs : GoodIn wsL_law (va_wsS RL 110 yL_runs wsL_runs) := goodIn_app (goodIn_of _ (by decide +kernel)) ggL_law_L_runs
set_option maxRecDepth 20000 in
theorem ggL_law_X8_runs : GoodIn wsL_law wsX8_runs := goodIn_r _ [335, 119, 277, 278, 279, 5, 280, 114, 196, 197, 198, 199, 200, 336, 337, 338, 339, 118, 115, 829, 830, 831, 832, 833, 834, 835, 836, 837, 838, 839, 840, 841, 842, 843, 844, 845, 846, 847, 848, 849, 850, 851, 852, 853, 854, 855, 856, 857, 858, 859, 860, 861, 862, 863, 864] (by decide +kernel) (by decide +kernel)
set_option maxRecDepth 20000 in
theorem gL_law_X8_runs : GoodIn wsL_law (wsV RL 112 RX8 yX8_runs wsX8_runs) := goodIn_app (goodIn_of _ (by decide +kernel)) ggL_law_X8_runs
set_option maxRecDepth 20000 in
theorem ggL_law_L_frequency : GoodIn wsL_law wsL_frequency := goodIn_ca (goodIn_r _ [342, 250, 343, 344, 345, 2, 346, 256, 257, 22, 260, 261, 262, 21, 263, 65, 347, 348, 349, 350, 60, 161, 162, 816, 817, 818, 819, 820, 821, 822, 823, 824, 825, 826, 827, 828, 868, 869, 870, 871, 872, 873] (by decide +kernel) (by decide +kernel)) (goodIn_sub (fun _ h => List.mem_append_left _ (List.mem_append_right _ h)) (by decide +kernel))
set_option maxRecDepth 20000 in
theorem gL_law_L_frequency : GoodIn wsL_law (va_wsS RL 113 yL_frequency wsL_frequency) := goodIn_app (goodIn_of _ (by decide +kernel)) ggL_law_L_frequency
set_option maxRecDepth 20000 in
theorem ggL_law_X8_frequency : GoodIn wsL_law wsX8_frequency := goodIn_r _ [354, 116, 115, 277, 278, 279, 5, 280, 114, 196, 197, 198, 199, 200, 829, 830, 831, 832, 833, 834, 835, 836, 837, 838, 839, 840, 841, 842, 843, 844, 845, 846, 847, 848, 849, 850, 851, 852, 853, 854, 855, 856, 857, 858, 859, 860, 861, 862, 863, 864] (by decide +kernel) (by decide +kernel)
set_option maxRecDepth 20000 in
theorem gL_law_X8_frequency : GoodIn wsL_law (wsV RL 115 RX8 yX8_frequency wsX8_frequency) := goodIn_app (goodIn_of _ (by decide +kernel)) ggL_law_X8_frequency
set_option maxRecDepth 20000 in
theorem ggL_law_X7_depth : GoodIn wsL_law wsX7_depth := goodIn_r _ [358, 22, 18, 359, 180, 181, 182, 360, 361, 362, 21, 363, 65, 64, 61, 364, 327, 328, 329, 330, 62, 59, 331, 261, 262, 263, 816, 817, 818, 819, 820, 821, 822, 823, 824, 825, 826, 827, 828, 868, 869, 870, 871, 872, 873] (by decide +kernel) (by decide +kernel)
set_option maxRecDepth 20000 in
theorem gL_law_X7_depth : GoodIn wsL_law (wsV RL 116 RX7 yX7_depth wsX7_depth) := goodIn_app (goodIn_of _ (by decide +kernel)) ggL_law_X7_depth
set_option maxRecDepth 20000 in
theorem ggL_law_X8_depth : GoodIn wsL_law wsX8_depth := goodIn_r _ [368, 200, 369, 370, 371, 5, 372, 113, 114, 119, 117, 336, 337, 338, 339, 118, 115, 829, 830, 831, 832, 833, 834, 835, 836, 837, 838, 839, 840, 841, 842, 843, 844, 845, 846, 847, 848, 849, 850, 851, 852, 853, 854, 855, 856, 857, 858, 859, 860, 861, 862, 863, 864] (by decide +kernel) (by decide +kernel)
set_option maxRecDepth 20000 in
theorem gL_law_X8_depth : GoodIn wsL_law (wsV RL 119 RX8 yX8_depth wsX8_depth) := goodIn_app (goodIn_of _ (by decide +kernel)) ggL_law_X8_depth
set_option maxRecDepth 20000 in
theorem ggL_law_L_breakEven : GoodIn wsL_law wsL_breakEven := goodIn_ca (goodIn_r _ [375, 139, 376, 377, 378, 2, 379, 144, 145, 16, 146, 147, 148, 380, 381, 382, 15, 383, 384, 385, 386, 387, 53, 161, 162, 163, 164, 165, 166, 54, 157, 158, 159, 160, 52, 816, 817, 818, 819, 820, 821, 822, 823, 824, 825, 826, 827, 828, 865, 866, 867] (by decide +kernel) (by decide +kernel)) (goodIn_sub (fun _ h => List.mem_append_left _ (List.mem_append_left _ (List.mem_append_right _ h))) (by decide +kernel))
set_option maxRecDepth 20000 in
theorem gL_law_L_breakEven : GoodIn wsL_law (va_wsS RL 120 yL_breakEven wsL_breakEven) := goodIn_app (goodIn_of _ (by decide +kernel)) ggL_law_L_breakEven
set_option maxRecDepth 20000 in
theorem ggL_law_X8_breakEven : GoodIn wsL_law wsX8_breakEven := goodIn_r _ [391, 193, 194, 5, 195, 196, 197, 198, 199, 200, 392, 393, 394, 395, 112, 396, 397, 398, 399, 110, 111, 829, 830, 831, 832, 833, 834, 835, 836, 837, 838, 839, 840, 841, 842, 843, 844, 845, 846, 847, 848, 849, 850, 851, 852, 853, 854, 855, 856, 857, 858, 859, 860, 861, 862, 863, 864] (by decide +kernel) (by decide +kernel)
set_option maxRecDepth 20000 in
theorem gL_law_X8_breakEven : GoodIn wsL_law (wsV RL 122 RX8 yX8_breakEven wsX8_breakEven) := goodIn_app (goodIn_of _ (by decide +kernel)) ggL_law_X8_breakEven
set_option maxRecDepth 20000 in
theorem ggL_law_L_schedule : GoodIn wsL_law wsL_schedule := goodIn_ca (goodIn_ca (goodIn_r _ [402, 139, 251, 403, 404, 405, 2, 406, 144, 145, 258, 259, 45, 26, 146, 147, 148, 407, 408, 409, 25, 410, 73, 149, 150, 151, 152, 46, 35, 16, 153, 154, 155, 15, 156, 157, 158, 159, 160, 52, 161, 162, 163, 164, 165, 166, 54, 167, 168, 169, 34, 170, 85, 86, 171, 172, 173, 174, 31, 47, 175, 176, 177, 30, 178, 78, 79, 179, 180, 181, 182, 411, 412, 413, 414, 70, 71, 72, 415, 816, 817, 818, 819, 820, 821, 822, 823, 824, 825, 826, 827, 828, 874, 875, 876, 877, 865, 866, 867, 880, 881, 882, 883, 884, 885, 878, 879] (by decide +kernel) (by decide +kernel)) (goodIn_sub (fun _ h => List.mem_append_left _ (List.mem_append_left _ (List.mem_append_right _ h))) (by decide +kernel))) (goodIn_sub (fun _ h => List.mem_append_right _ h) (by decide +kernel))
set_option maxRecDepth 20000 in
theorem gL_law_L_schedule : GoodIn wsL_law (va_wsS RL 123 yL_schedule wsL_schedule) := goodIn_app (goodIn_of _ (by decide +kernel)) ggL_law_L_schedule
set_option maxRecDepth 20000 in
theorem ggL_law_X8_schedule : GoodIn wsL_law wsX8_schedule := goodIn_r _ [419, 217, 420, 120, 121, 122, 193, 194, 5, 195, 196, 197, 198, 199, 200, 281, 282, 283, 284, 201, 202, 203, 204, 205, 110, 112, 206, 207, 208, 209, 210, 211, 212, 213, 214, 215, 126, 216, 218, 829, 830, 831, 832, 833, 834, 835, 836, 837, 838, 839, 840, 841, 842, 843, 844, 845, 846, 847, 848, 849, 850, 851, 852, 853, 854, 855, 856, 857, 858, 859, 860, 861, 862, 863, 864] (by decide +kernel) (by decide +kernel)
set_option maxRecDepth 20000 in
theorem gL_law_X8_schedule : GoodIn wsL_law (wsV RL 125 RX8 yX8_schedule wsX8_schedule) := goodIn_app (goodIn_of _ (by decide +kernel)) ggL_law_X8_schedule
set_option maxRecDepth 20000 in
theorem ggL_law_L_addEvent : GoodIn wsL_law wsL_addEvent := goodIn_ca (goodIn_ca (goodIn_r _ [423, 139, 251, 424, 425, 426, 2, 427, 144, 145, 258, 259, 45, 27, 146, 147, 148, 407, 408, 409, 25, 410, 73, 411, 412, 413, 414, 70, 71, 72, 415, 816, 817, 818, 819, 820, 821, 822, 823, 824, 825, 826, 827, 828, 874, 875, 876, 877] (by decide +kernel) (by decide +kernel)) (goodIn_sub (fun _ h => List.mem_append_left _ (List.mem_append_left _ (List.mem_append_right _ h))) (by decide +kernel))) (goodIn_sub (fun _ h => List.mem_append_right _ h) (by decide +kernel))
set_option maxRecDepth 20000 in
theorem gL_law_L_addEvent : GoodIn wsL_law (va_wsS RL 126 yL_addEvent wsL_addEvent) := goodIn_app (goodIn_of _ (by decide +kernel)) ggL_law_L_addEvent
set_option maxRecDepth 20000 in
theorem ggL_law_X8_addEvent : GoodIn wsL_law wsX8_addEvent := goodIn_r _ [431, 217, 432, 123, 124, 193, 194, 5, 195, 196, 197, 198, 199, 200, 281, 282, 283, 284, 829, 830, 831, 832, 833, 834, 835, 836, 837, 838, 839, 840, 841, 842, 843, 844, 845, 846, 847, 848, 849, 850, 851, 852, 853, 854, 855, 856, 857, 858, 859, 860, 861, 862, 863, 864] (by decide +kernel) (by decide +kernel)
set_option maxRecDepth 20000 in
theorem gL_law_X8_addEvent : GoodIn wsL_law (wsV RL 128 RX8 yX8_addEvent wsX8_addEvent) := goodIn_app (goodIn_of _ (by decide +kernel)) ggL_law_X8_addEvent
set_option maxRecDepth 20000 in
theorem ggL_law_L_setRule : GoodIn wsL_law wsL_setRule := goodIn_ca (goodIn_r _ [435, 139, 436, 437, 438, 2, 439, 144, 145, 44, 146, 147, 148, 149, 150, 151, 152, 46, 35, 16, 153, 154, 155, 15, 156, 157, 158, 159, 160, 52, 161, 162, 163, 164, 165, 166, 54, 167, 168, 169, 34, 170, 85, 86, 171, 172, 173, 174, 31, 45, 47, 175, 176, 177, 30, 178, 78, 79, 179, 180, 181, 182, 816, 817, 818, 819, 820, 821, 822, 823, 824, 825, 826, 827, 828, 865, 866, 867, 880, 881, 882, 883, 884, 885, 878, 879] (by decide +kernel) (by decide +kernel)) (goodIn_sub (fun _ h => List.mem_append_left _ (List.mem_append_left _ (List.mem_append_right _ h))) (by decide +kernel))
set_option maxRecDepth 20000 in
theorem gL_law_L_setRule : GoodIn wsL_law (va_wsS RL 129 yL_setRule wsL_setRule) := goodIn_app (goodIn_of _ (by decide +kernel)) ggL_law_L_setRule
set_option maxRecDepth 20000 in
theorem ggL_law_X8_setRule : GoodIn wsL_law wsX8_setRule := goodIn_r _ [443, 125, 193, 194, 5, 195, 196, 197, 198, 199, 200, 201, 202, 203, 204, 205, 110, 112, 206, 207, 208, 209, 210, 211, 212, 213, 214, 215, 126, 216, 217, 218, 829, 830, 831, 832, 833, 834, 835, 836, 837, 838, 839, 840, 841, 842, 843, 844, 845, 846, 847, 848, 849, 850, 851, 852, 853, 854, 855, 856, 857, 858, 859, 860, 861, 862, 863, 864] (by decide +kernel) (by decide +kernel)
set_option maxRecDepth 20000 in
theorem gL_law_X8_setRule : GoodIn wsL_law (wsV RL 131 RX8 yX8_setRule wsX8_setRule) := goodIn_app (goodIn_of _ (by decide +kernel)) ggL_law_X8_setRule
set_option maxRecDepth 20000 in
theorem ggL_law_X7_timers : GoodIn wsL_law wsX7_timers := goodIn_r _ [447, 26, 816, 817, 818, 819, 820, 821, 822, 823, 824, 825, 826, 827, 828, 874, 875, 876, 877] (by decide +kernel) (by decide +kernel)
set_option maxRecDepth 20000 in
theorem gL_law_X7_timers : GoodIn wsL_law (wsV RL 132 RX7 yX7_timers wsX7_timers) := goodIn_app (goodIn_of _ (by decide +kernel)) ggL_law_X7_timers
set_option maxRecDepth 20000 in
theorem ggL_law_X8_timers : GoodIn wsL_law wsX8_timers := goodIn_r _ [451, 200, 420, 829, 830, 831, 832, 833, 834, 835, 836, 837, 838, 839, 840, 841, 842, 843, 844, 845, 846, 847, 848, 849, 850, 851, 852, 853, 854, 855, 856, 857, 858, 859, 860, 861, 862, 863, 864] (by decide +kernel) (by decide +kernel)
set_option maxRecDepth 20000 in
theorem gL_law_X8_timers : GoodIn wsL_law (wsV RL 135 RX8 yX8_timers wsX8_timers) := goodIn_app (goodIn_of _ (by decide +kernel)) ggL_law_X8_timers
set_option maxRecDepth 20000 in
theorem ggL_law_X7_nextWakeup : GoodIn wsL_law wsX7_nextWakeup := goodIn_r _ [455, 26, 456, 457, 458, 459, 25, 460, 73, 70, 71, 816, 817, 818, 819, 820, 821, 822, 823, 824, 825, 826, 827, 828, 874, 875, 876, 877] (by decide +kernel) (by decide +kernel)
set_option maxRecDepth 20000 in
theorem gL_law_X7_nextWakeup : GoodIn wsL_law (wsV RL 136 RX7 yX7_nextWakeup wsX7_nextWakeup) := goodIn_app (goodIn_of _ (by decide +kernel)) ggL_law_X7_nextWakeup
set_option maxRecDepth 20000 in
theorem ggL_law_X8_nextWakeup : GoodIn wsL_law wsX8_nextWakeup := goodIn_r _ [464, 200, 420, 465, 466, 467, 5, 468, 469, 121, 829, 830, 831, 832, 833, 834, 835, 836, 837, 838, 839, 840, 841, 842, 843, 844, 845, 846, 847, 848, 849, 850, 851, 852, 853, 854, 855, 856, 857, 858, 859, 860, 861, 862, 863, 864] (by decide +kernel) (by decide +kernel)
set_option maxRecDepth 20000 in
theorem gL_law_X8_nextWakeup : GoodIn wsL_law (wsV RL 139 RX8 yX8_nextWakeup wsX8_nextWakeup) := goodIn_app (goodIn_of _ (by decide +kernel)) ggL_law_X8_nextWakeup
set_option maxRecDepth 20000 in
theorem ggL_law_L_play : GoodIn wsL_law wsL_play := goodIn_ca (goodIn_r _ [472, 139, 473, 474, 475, 2, 476, 144, 145, 45, 146, 147, 148, 477, 478, 479, 480, 46, 35, 39, 481, 482, 483, 484, 27, 16, 485, 486, 487, 488, 456, 489, 453, 454, 455, 26, 457, 458, 459, 25, 460, 73, 70, 71, 490, 491, 492, 493, 153, 154, 155, 15, 156, 157, 158, 159, 160, 52, 161, 162, 163, 164, 165, 166, 54, 167, 168, 169, 34, 170, 85, 86, 494, 171, 172, 173, 174, 31, 47, 175, 176, 177, 30, 178, 78, 79, 179, 180, 181, 182, 495, 496, 497, 498, 499, 500, 501, 502, 72, 230, 503, 504, 505, 506, 44, 359, 507, 356, 357, 358, 22, 18, 360, 361, 362, 21, 363, 65, 64, 61, 364, 327, 328, 329, 330, 62, 59, 331, 261, 262, 263, 508, 509, 510, 511, 512, 513, 514, 515, 516, 517, 518, 519, 520, 521, 381, 382, 383, 384, 385, 386, 387, 53, 522, 523, 524, 525, 526, 527, 528, 529, 530, 84, 187, 188, 531, 532, 533, 534, 535, 536, 537, 538, 539, 540, 541, 542, 543, 544, 545, 38, 546, 96, 94, 99, 547, 548, 549, 550, 551, 552, 553, 554, 555, 556, 557, 98, 95, 558, 97, 559, 560, 561, 816, 817, 818, 819, 820, 821, 822, 823, 824, 825, 826, 827, 828, 880, 881, 882, 883, 884, 885, 874, 875, 876, 877, 865, 866, 867, 878, 879, 868, 869, 870, 871, 872, 873, 886, 887, 888, 889] (by decide +kernel) (by decide +kernel)) (goodIn_sub (fun _ h => List.mem_append_left _ (List.mem_append_left _ (List.mem_append_right _ h))) (by decide +kernel))
set_option maxRecDepth 20000 in
theorem gL_law_L_play : GoodIn wsL_law (va_wsS RL 140 yL_play wsL_play) := goodIn_app (goodIn_of _ (by decide +kernel)) ggL_law_L_play
set_option maxRecDepth 20000 in
theorem ggL_law_X8_play : GoodIn wsL_law wsX8_play := goodIn_r _ [565, 217, 193, 194, 5, 195, 196, 197, 198, 199, 200, 566, 567, 568, 569, 205, 112, 110, 127, 570, 571, 572, 573, 574, 465, 466, 467, 468, 469, 420, 121, 212, 213, 214, 215, 126, 216, 218, 575, 576, 577, 578, 432, 123, 206, 207, 208, 209, 210, 211, 579, 580, 581, 582, 124, 120, 122, 583, 584, 585, 586, 587, 588, 589, 590, 591, 125, 111, 592, 593, 594, 595, 596, 369, 370, 371, 372, 113, 114, 119, 117, 336, 337, 338, 339, 118, 115, 392, 393, 394, 395, 396, 397, 398, 399, 597, 598, 599, 600, 601, 602, 603, 604, 130, 128, 605, 606, 129, 132, 131, 607, 608, 609, 829, 830, 831, 832, 833, 834, 835, 836, 837, 838, 839, 840, 841, 842, 843, 844, 845, 846, 847, 848, 849, 850, 851, 852, 853, 854, 855, 856, 857, 858, 859, 860, 861, 862, 863, 864] (by decide +kernel) (by decide +kernel)
set_option maxRecDepth 20000 in
theorem gL_law_X8_play : GoodIn wsL_law (wsV RL 142 RX8 yX8_play wsX8_play) := goodIn_app (goodIn_of _ (by decide +kernel)) ggL_law_X8_play
set_option maxRecDepth 20000 in
theorem ggL_law_X7_now : GoodIn wsL_law wsX7_now := goodIn_r _ [613, 45, 816, 817, 818, 819, 820, 821, 822, 823, 824, 825, 826, 827, 828] (by decide +kernel) (by decide +kernel)
set_option maxRecDepth 20000 in
theorem gL_law_X7_now : GoodIn wsL_law (wsV RL 143 RX7 yX7_now wsX7_now) := goodIn_app (goodIn_of _ (by decide +kernel)) ggL_law_X7_now
set_option maxRecDepth 20000 in
theorem ggL_law_X8_now : GoodIn wsL_law wsX8_now := goodIn_r _ [617, 200, 217, 829, 830, 831, 832, 833, 834, 835, 836, 837, 838, 839, 840, 841, 842, 843, 844, 845, 846, 847, 848, 849, 850, 851, 852, 853, 854, 855, 856, 857, 858, 859, 860, 861, 862, 863, 864] (by decide +kernel) (by decide +kernel)
set_option maxRecDepth 20000 in
theorem gL_law_X8_now : GoodIn wsL_law (wsV RL 146 RX8 yX8_now wsX8_now) := goodIn_app (goodIn_of _ (by decide +kernel)) ggL_law_X8_now
set_option maxRecDepth 20000 in
theorem ggL_law_X7_state : GoodIn wsL_law wsX7_state := goodIn_r _ [621, 46, 816, 817, 818, 819, 820, 821, 822, 823, 824, 825, 826, 827, 828] (by decide +kernel) (by decide +kernel)
set_option maxRecDepth 20000 in
theorem gL_law_X7_state : GoodIn wsL_law (wsV RL 147 RX7 yX7_state wsX7_state) := goodIn_app (goodIn_of _ (by decide +kernel)) ggL_law_X7_state
set_option maxRecDepth 20000 in
theorem ggL_law_X8_state : GoodIn wsL_law wsX8_state := goodIn_r _ [625, 200, 205, 829, 830, 831, 832, 833, 834, 835, 836, 837, 838, 839, 840, 841, 842, 843, 844, 845, 846, 847, 848, 849, 850, 851, 852, 853, 854, 855, 856, 857, 858, 859, 860, 861, 862, 863, 864] (by decide +kernel) (by decide +kernel)
set_option maxRecDepth 20000 in
theorem gL_law_X8_state : GoodIn wsL_law (wsV RL 150 RX8 yX8_state wsX8_state) := goodIn_app (goodIn_of _ (by decide +kernel)) ggL_law_X8_state
set_option maxRecDepth 20000 in
theorem ggL_law_X7_spent : GoodIn wsL_law wsX7_spent := goodIn_r _ [629, 35, 816, 817, 818, 819, 820, 821, 822, 823, 824, 825, 826, 827, 828, 880, 881, 882, 883, 884, 885] (by decide +kernel) (by decide +kernel)
set_option maxRecDepth 20000 in
theorem gL_law_X7_spent : GoodIn wsL_law (wsV RL 151 RX7 yX7_spent wsX7_spent) := goodIn_app (goodIn_of _ (by decide +kernel)) ggL_law_X7_spent
set_option maxRecDepth 20000 in
theorem ggL_law_X8_spent : GoodIn wsL_law wsX8_spent := goodIn_r _ [633, 200, 210, 829, 830, 831, 832, 833, 834, 835, 836, 837, 838, 839, 840, 841, 842, 843, 844, 845, 846, 847, 848, 849, 850, 851, 852, 853, 854, 855, 856, 857, 858, 859, 860, 861, 862, 863, 864] (by decide +kernel) (by decide +kernel)
set_option maxRecDepth 20000 in
theorem gL_law_X8_spent : GoodIn wsL_law (wsV RL 155 RX8 yX8_spent wsX8_spent) := goodIn_app (goodIn_of _ (by decide +kernel)) ggL_law_X8_spent
set_option maxRecDepth 20000 in
theorem ggL_law_L_ticksIn : GoodIn wsL_law wsL_ticksIn := goodIn_ca (goodIn_r _ [636, 139, 637, 638, 639, 2, 640, 144, 145, 35, 146, 147, 148, 641, 161, 162, 816, 817, 818, 819, 820, 821, 822, 823, 824, 825, 826, 827, 828, 880, 881, 882, 883, 884, 885] (by decide +kernel) (by decide +kernel)) (goodIn_sub (fun _ h => List.mem_append_left _ (List.mem_append_left _ (List.mem_append_right _ h))) (by decide +kernel))
set_option maxRecDepth 20000 in
theorem gL_law_L_ticksIn : GoodIn wsL_law (va_wsS RL 156 yL_ticksIn wsL_ticksIn) := goodIn_app (goodIn_of _ (by decide +kernel)) ggL_law_L_ticksIn
set_option maxRecDepth 20000 in
theorem ggL_law_X8_ticksIn : GoodIn wsL_law wsX8_ticksIn := goodIn_r _ [645, 127, 193, 194, 5, 195, 196, 197, 198, 199, 200, 829, 830, 831, 832, 833, 834, 835, 836, 837, 838, 839, 840, 841, 842, 843, 844, 845, 846, 847, 848, 849, 850, 851, 852, 853, 854, 855, 856, 857, 858, 859, 860, 861, 862, 863, 864] (by decide +kernel) (by decide +kernel)
set_option maxRecDepth 20000 in
theorem gL_law_X8_ticksIn : GoodIn wsL_law (wsV RL 158 RX8 yX8_ticksIn wsX8_ticksIn) := goodIn_app (goodIn_of _ (by decide +kernel)) ggL_law_X8_ticksIn
set_option maxRecDepth 20000 in
theorem ggL_law_X7_sleeps : GoodIn wsL_law wsX7_sleeps := goodIn_r _ [649, 35, 816, 817, 818, 819, 820, 821, 822, 823, 824, 825, 826, 827, 828, 880, 881, 882, 883, 884, 885] (by decide +kernel) (by decide +kernel)
set_option maxRecDepth 20000 in
theorem gL_law_X7_sleeps : GoodIn wsL_law (wsV RL 159 RX7 yX7_sleeps wsX7_sleeps) := goodIn_app (goodIn_of _ (by decide +kernel)) ggL_law_X7_sleeps
set_option maxRecDepth 20000 in
theorem ggL_law_X8_sleeps : GoodIn wsL_law wsX8_sleeps := goodIn_r _ [653, 200, 592, 829, 830, 831, 832, 833, 834, 835, 836, 837, 838, 839, 840, 841, 842, 843, 844, 845, 846, 847, 848, 849, 850, 851, 852, 853, 854, 855, 856, 857, 858, 859, 860, 861, 862, 863, 864] (by decide +kernel) (by decide +kernel)
set_option maxRecDepth 20000 in
theorem gL_law_X8_sleeps : GoodIn wsL_law (wsV RL 162 RX8 yX8_sleeps wsX8_sleeps) := goodIn_app (goodIn_of _ (by decide +kernel)) ggL_law_X8_sleeps
set_option maxRecDepth 20000 in
theorem ggL_law_X7_lateness : GoodIn wsL_law wsX7_lateness := goodIn_r _ [657, 35, 816, 817, 818, 819, 820, 821, 822, 823, 824, 825, 826, 827, 828, 880, 881, 882, 883, 884, 885] (by decide +kernel) (by decide +kernel)
set_option maxRecDepth 20000 in
theorem gL_law_X7_lateness : GoodIn wsL_law (wsV RL 163 RX7 yX7_lateness wsX7_lateness) := goodIn_app (goodIn_of _ (by decide +kernel)) ggL_law_X7_lateness
set_option maxRecDepth 20000 in
theorem ggL_law_X8_lateness : GoodIn wsL_law wsX8_lateness := goodIn_r _ [661, 200, 574, 829, 830, 831, 832, 833, 834, 835, 836, 837, 838, 839, 840, 841, 842, 843, 844, 845, 846, 847, 848, 849, 850, 851, 852, 853, 854, 855, 856, 857, 858, 859, 860, 861, 862, 863, 864] (by decide +kernel) (by decide +kernel)
set_option maxRecDepth 20000 in
theorem gL_law_X8_lateness : GoodIn wsL_law (wsV RL 166 RX8 yX8_lateness wsX8_lateness) := goodIn_app (goodIn_of _ (by decide +kernel)) ggL_law_X8_lateness
set_option maxRecDepth 20000 in
theorem ggL_law_X7_served : GoodIn wsL_law wsX7_served := goodIn_r _ [665, 35, 816, 817, 818, 819, 820, 821, 822, 823, 824, 825, 826, 827, 828, 880, 881, 882, 883, 884, 885] (by decide +kernel) (by decide +kernel)
set_option maxRecDepth 20000 in
theorem gL_law_X7_served : GoodIn wsL_law (wsV RL 167 RX7 yX7_served wsX7_served) := goodIn_app (goodIn_of _ (by decide +kernel)) ggL_law_X7_served
set_option maxRecDepth 20000 in
theorem ggL_law_X8_served : GoodIn wsL_law wsX8_served := goodIn_r _ [669, 200, 587, 829, 830, 831, 832, 833, 834, 835, 836, 837, 838, 839, 840, 841, 842, 843, 844, 845, 846, 847, 848, 849, 850, 851, 852, 853, 854, 855, 856, 857, 858, 859, 860, 861, 862, 863, 864] (by decide +kernel) (by decide +kernel)
set_option maxRecDepth 20000 in
theorem gL_law_X8_served : GoodIn wsL_law (wsV RL 170 RX8 yX8_served wsX8_served) := goodIn_app (goodIn_of _ (by decide +kernel)) ggL_law_X8_served
set_option maxRecDepth 20000 in
theorem ggL_law_L_setHarvest : GoodIn wsL_law wsL_setHarvest := goodIn_ca (goodIn_r _ [672, 139, 673, 674, 675, 2, 676, 144, 145, 39, 146, 147, 148, 242, 187, 188, 816, 817, 818, 819, 820, 821, 822, 823, 824, 825, 826, 827, 828, 886, 887, 888, 889] (by decide +kernel) (by decide +kernel)) (goodIn_sub (fun _ h => List.mem_append_left _ (List.mem_append_left _ (List.mem_append_right _ h))) (by decide +kernel))
set_option maxRecDepth 20000 in
theorem gL_law_L_setHarvest : GoodIn wsL_law (va_wsS RL 171 yL_setHarvest wsL_setHarvest) := goodIn_app (goodIn_of _ (by decide +kernel)) ggL_law_L_setHarvest
set_option maxRecDepth 20000 in
theorem ggL_law_X8_setHarvest : GoodIn wsL_law wsX8_setHarvest := goodIn_r _ [680, 128, 193, 194, 5, 195, 196, 197, 198, 199, 200, 829, 830, 831, 832, 833, 834, 835, 836, 837, 838, 839, 840, 841, 842, 843, 844, 845, 846, 847, 848, 849, 850, 851, 852, 853, 854, 855, 856, 857, 858, 859, 860, 861, 862, 863, 864] (by decide +kernel) (by decide +kernel)
set_option maxRecDepth 20000 in
theorem gL_law_X8_setHarvest : GoodIn wsL_law (wsV RL 173 RX8 yX8_setHarvest wsX8_setHarvest) := goodIn_app (goodIn_of _ (by decide +kernel)) ggL_law_X8_setHarvest
set_option maxRecDepth 20000 in
theorem ggL_law_X7_available : GoodIn wsL_law wsX7_available := goodIn_r _ [684, 39, 816, 817, 818, 819, 820, 821, 822, 823, 824, 825, 826, 827, 828, 886, 887, 888, 889] (by decide +kernel) (by decide +kernel)
set_option maxRecDepth 20000 in
theorem gL_law_X7_available : GoodIn wsL_law (wsV RL 174 RX7 yX7_available wsX7_available) := goodIn_app (goodIn_of _ (by decide +kernel)) ggL_law_X7_available
set_option maxRecDepth 20000 in
theorem ggL_law_X8_available : GoodIn wsL_law wsX8_available := goodIn_r _ [688, 200, 130, 829, 830, 831, 832, 833, 834, 835, 836, 837, 838, 839, 840, 841, 842, 843, 844, 845, 846, 847, 848, 849, 850, 851, 852, 853, 854, 855, 856, 857, 858, 859, 860, 861, 862, 863, 864] (by decide +kernel) (by decide +kernel)
set_option maxRecDepth 20000 in
theorem gL_law_X8_available : GoodIn wsL_law (wsV RL 177 RX8 yX8_available wsX8_available) := goodIn_app (goodIn_of _ (by decide +kernel)) ggL_law_X8_available
set_option maxRecDepth 20000 in
theorem ggL_law_X7_bound : GoodIn wsL_law wsX7_bound := goodIn_r _ [692, 39, 816, 817, 818, 819, 820, 821, 822, 823, 824, 825, 826, 827, 828, 886, 887, 888, 889] (by decide +kernel) (by decide +kernel)
set_option maxRecDepth 20000 in
theorem gL_law_X7_bound : GoodIn wsL_law (wsV RL 178 RX7 yX7_bound wsX7_bound) := goodIn_app (goodIn_of _ (by decide +kernel)) ggL_law_X7_bound
set_option maxRecDepth 20000 in
theorem ggL_law_X8_bound : GoodIn wsL_law wsX8_bound := goodIn_r _ [696, 200, 132, 829, 830, 831, 832, 833, 834, 835, 836, 837, 838, 839, 840, 841, 842, 843, 844, 845, 846, 847, 848, 849, 850, 851, 852, 853, 854, 855, 856, 857, 858, 859, 860, 861, 862, 863, 864] (by decide +kernel) (by decide +kernel)
set_option maxRecDepth 20000 in
theorem gL_law_X8_bound : GoodIn wsL_law (wsV RL 181 RX8 yX8_bound wsX8_bound) := goodIn_app (goodIn_of _ (by decide +kernel)) ggL_law_X8_bound
set_option maxRecDepth 20000 in
theorem ggL_law_X7_shortTicks : GoodIn wsL_law wsX7_shortTicks := goodIn_r _ [700, 39, 816, 817, 818, 819, 820, 821, 822, 823, 824, 825, 826, 827, 828, 886, 887, 888, 889] (by decide +kernel) (by decide +kernel)
set_option maxRecDepth 20000 in
theorem gL_law_X7_shortTicks : GoodIn wsL_law (wsV RL 182 RX7 yX7_shortTicks wsX7_shortTicks) := goodIn_app (goodIn_of _ (by decide +kernel)) ggL_law_X7_shortTicks
set_option maxRecDepth 20000 in
theorem ggL_law_X8_shortTicks : GoodIn wsL_law wsX8_shortTicks := goodIn_r _ [704, 200, 605, 829, 830, 831, 832, 833, 834, 835, 836, 837, 838, 839, 840, 841, 842, 843, 844, 845, 846, 847, 848, 849, 850, 851, 852, 853, 854, 855, 856, 857, 858, 859, 860, 861, 862, 863, 864] (by decide +kernel) (by decide +kernel)
set_option maxRecDepth 20000 in
theorem gL_law_X8_shortTicks : GoodIn wsL_law (wsV RL 185 RX8 yX8_shortTicks wsX8_shortTicks) := goodIn_app (goodIn_of _ (by decide +kernel)) ggL_law_X8_shortTicks
set_option maxRecDepth 20000 in
theorem ggL_law_L_plannedWakeups : GoodIn wsL_law wsL_plannedWakeups := goodIn_ca (goodIn_r _ [707, 139, 708, 709, 710, 2, 711, 144, 145, 45, 43, 26, 146, 147, 148, 712, 713, 714, 42, 715, 716, 458, 459, 25, 460, 73, 70, 71, 816, 817, 818, 819, 820, 821, 822, 823, 824, 825, 826, 827, 828, 874, 875, 876, 877] (by decide +kernel) (by decide +kernel)) (goodIn_sub (fun _ h => List.mem_append_left _ (List.mem_append_left _ (List.mem_append_right _ h))) (by decide +kernel))
set_option maxRecDepth 20000 in
theorem gL_law_L_plannedWakeups : GoodIn wsL_law (va_wsS RL 186 yL_plannedWakeups wsL_plannedWakeups) := goodIn_app (goodIn_of _ (by decide +kernel)) ggL_law_L_plannedWakeups
set_option maxRecDepth 20000 in
theorem ggL_law_X8_plannedWakeups : GoodIn wsL_law wsX8_plannedWakeups := goodIn_r _ [720, 721, 722, 723, 5, 724, 217, 196, 197, 198, 199, 200, 725, 726, 727, 728, 729, 730, 731, 732, 420, 120, 121, 829, 830, 831, 832, 833, 834, 835, 836, 837, 838, 839, 840, 841, 842, 843, 844, 845, 846, 847, 848, 849, 850, 851, 852, 853, 854, 855, 856, 857, 858, 859, 860, 861, 862, 863, 864] (by decide +kernel) (by decide +kernel)
set_option maxRecDepth 20000 in
theorem gL_law_X8_plannedWakeups : GoodIn wsL_law (wsV RL 188 RX8 yX8_plannedWakeups wsX8_plannedWakeups) := goodIn_app (goodIn_of _ (by decide +kernel)) ggL_law_X8_plannedWakeups
set_option maxRecDepth 20000 in
theorem ggL_law_L_fewestWakeups : GoodIn wsL_law wsL_fewestWakeups := goodIn_ca (goodIn_r _ [735, 139, 736, 737, 738, 2, 739, 144, 145, 45, 43, 26, 146, 147, 148, 740, 741, 742, 42, 743, 104, 744, 745, 746, 747, 105, 748, 749, 750, 751, 752, 753, 181, 754, 755, 756, 757, 25, 758, 73, 71, 70, 759, 760, 761, 762, 763, 764, 816, 817, 818, 819, 820, 821, 822, 823, 824, 825, 826, 827, 828, 890, 891, 874, 875, 876, 877] (by decide +kernel) (by decide +kernel)) (goodIn_sub (fun _ h => List.mem_append_left _ (List.mem_append_left _ (List.mem_append_right _ h))) (by decide +kernel))
set_option maxRecDepth 20000 in
theorem gL_law_L_fewestWakeups : GoodIn wsL_law (va_wsS RL 189 yL_fewestWakeups wsL_fewestWakeups) := goodIn_app (goodIn_of _ (by decide +kernel)) ggL_law_L_fewestWakeups
set_option maxRecDepth 20000 in
theorem ggL_law_X8_fewestWakeups : GoodIn wsL_law wsX8_fewestWakeups := goodIn_r _ [768, 721, 722, 723, 5, 724, 217, 196, 197, 198, 199, 200, 725, 726, 727, 728, 729, 730, 731, 732, 420, 120, 121, 829, 830, 831, 832, 833, 834, 835, 836, 837, 838, 839, 840, 841, 842, 843, 844, 845, 846, 847, 848, 849, 850, 851, 852, 853, 854, 855, 856, 857, 858, 859, 860, 861, 862, 863, 864] (by decide +kernel) (by decide +kernel)
set_option maxRecDepth 20000 in
theorem gL_law_X8_fewestWakeups : GoodIn wsL_law (wsV RL 191 RX8 yX8_fewestWakeups wsX8_fewestWakeups) := goodIn_app (goodIn_of _ (by decide +kernel)) ggL_law_X8_fewestWakeups
set_option maxRecDepth 20000 in
theorem ggL_law_L_plannedCost : GoodIn wsL_law wsL_plannedCost := goodIn_ca (goodIn_r _ [771, 139, 772, 773, 774, 2, 775, 144, 145, 45, 43, 26, 16, 146, 147, 148, 507, 356, 357, 358, 22, 18, 359, 180, 181, 182, 360, 361, 362, 21, 363, 65, 64, 61, 364, 327, 328, 329, 330, 62, 59, 331, 261, 262, 263, 776, 777, 778, 42, 779, 780, 713, 714, 715, 716, 458, 459, 25, 460, 73, 70, 71, 781, 782, 783, 15, 784, 785, 518, 519, 520, 521, 381, 382, 383, 384, 385, 386, 387, 53, 161, 162, 163, 164, 165, 166, 54, 157, 158, 159, 160, 52, 786, 787, 788, 789, 790, 154, 155, 156, 816, 817, 818, 819, 820, 821, 822, 823, 824, 825, 826, 827, 828, 868, 869, 870, 871, 872, 873, 874, 875, 876, 877, 865, 866, 867] (by decide +kernel) (by decide +kernel)) (goodIn_sub (fun _ h => List.mem_append_left _ (List.mem_append_left _ (List.mem_append_right _ h))) (by decide +kernel))
set_option maxRecDepth 20000 in
theorem gL_law_L_plannedCost : GoodIn wsL_law (va_wsS RL 192 yL_plannedCost wsL_plannedCost) := goodIn_app (goodIn_of _ (by decide +kernel)) ggL_law_L_plannedCost
set_option maxRecDepth 20000 in
theorem ggL_law_X8_plannedCost : GoodIn wsL_law wsX8_plannedCost := goodIn_r _ [794, 217, 721, 722, 723, 5, 724, 196, 197, 198, 199, 200, 729, 730, 731, 732, 420, 120, 121, 593, 594, 595, 596, 112, 369, 370, 371, 372, 113, 114, 119, 117, 336, 337, 338, 339, 118, 115, 392, 393, 394, 395, 396, 397, 398, 399, 110, 111, 597, 598, 599, 600, 216, 126, 469, 829, 830, 831, 832, 833, 834, 835, 836, 837, 838, 839, 840, 841, 842, 843, 844, 845, 846, 847, 848, 849, 850, 851, 852, 853, 854, 855, 856, 857, 858, 859, 860, 861, 862, 863, 864] (by decide +kernel) (by decide +kernel)
set_option maxRecDepth 20000 in
theorem gL_law_X8_plannedCost : GoodIn wsL_law (wsV RL 194 RX8 yX8_plannedCost wsX8_plannedCost) := goodIn_app (goodIn_of _ (by decide +kernel)) ggL_law_X8_plannedCost
set_option maxRecDepth 20000 in
theorem ggL_law_L_leastCost : GoodIn wsL_law wsL_leastCost := goodIn_ca (goodIn_r _ [797, 139, 798, 799, 800, 2, 801, 144, 145, 45, 43, 26, 16, 146, 147, 148, 507, 356, 357, 358, 22, 18, 359, 180, 181, 182, 360, 361, 362, 21, 363, 65, 64, 61, 364, 327, 328, 329, 330, 62, 59, 331, 261, 262, 263, 802, 803, 804, 42, 805, 104, 806, 807, 808, 15, 809, 810, 786, 787, 788, 789, 384, 385, 386, 387, 53, 161, 162, 157, 158, 159, 160, 52, 163, 164, 165, 166, 54, 790, 154, 155, 156, 744, 745, 746, 747, 105, 748, 749, 750, 751, 752, 753, 754, 755, 756, 757, 25, 758, 73, 71, 70, 759, 760, 761, 762, 763, 764, 816, 817, 818, 819, 820, 821, 822, 823, 824, 825, 826, 827, 828, 868, 869, 870, 871, 872, 873, 890, 891, 865, 866, 867, 874, 875, 876, 877] (by decide +kernel) (by decide +kernel)) (goodIn_sub (fun _ h => List.mem_append_left _ (List.mem_append_left _ (List.mem_append_right _ h))) (by decide +kernel))
set_option maxRecDepth 20000 in
theorem gL_law_L_leastCost : GoodIn wsL_law (va_wsS RL 195 yL_leastCost wsL_leastCost) := goodIn_app (goodIn_of _ (by decide +kernel)) ggL_law_L_leastCost
set_option maxRecDepth 20000 in
theorem ggL_law_X8_leastCost : GoodIn wsL_law wsX8_leastCost := goodIn_r _ [814, 217, 134, 112, 133, 815, 721, 722, 723, 5, 724, 196, 197, 198, 199, 200, 369, 370, 371, 372, 113, 114, 119, 117, 336, 337, 338, 339, 118, 115, 396, 397, 398, 399, 110, 111, 729, 730, 731, 732, 420, 120, 121, 829, 830, 831, 832, 833, 834, 835, 836, 837, 838, 839, 840, 841, 842, 843, 844, 845, 846, 847, 848, 849, 850, 851, 852, 853, 854, 855, 856, 857, 858, 859, 860, 861, 862, 863, 864] (by decide +kernel) (by decide +kernel)
set_option maxRecDepth 20000 in
theorem gL_law_X8_leastCost : GoodIn wsL_law (wsV RL 197 RX8 yX8_leastCost wsX8_leastCost) := goodIn_app (goodIn_of _ (by decide +kernel)) ggL_law_X8_leastCost
