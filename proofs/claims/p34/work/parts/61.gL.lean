set_option maxRecDepth 20000 in
theorem ggL_sets_X7_setAwake : GoodIn wsL_sets wsX7_setAwake := goodIn_ca (goodIn_r _ [8, 9, 10, 11, 12, 13, 7, 14, 15, 16, 17, 18, 19, 20, 21, 22, 23, 24, 25, 26, 27, 28, 29, 30, 31, 32, 33, 34, 35, 36, 37, 38, 39, 40, 41, 42, 43, 44, 45, 46, 47, 48, 49, 50, 51, 52, 53, 54, 55, 56, 57, 58, 59, 60, 61, 62, 63, 64, 65, 66, 67, 68, 69, 70, 283, 284, 285, 286, 287, 288, 289, 290, 291, 292, 293, 294, 295, 296, 297, 298, 299, 300, 301, 302, 303, 304, 305, 306] (by decide +kernel) (by decide +kernel)) (goodIn_sub (fun _ h => List.mem_cons_of_mem _ (List.mem_append_left _ (List.mem_append_left _ (List.mem_append_right _ h)))) (by decide +kernel))
set_option maxRecDepth 20000 in
theorem gL_sets_X7_setAwake : GoodIn wsL_sets (wsV RL 8 RX7 yX7_setAwake wsX7_setAwake) := goodIn_app (goodIn_of _ (by decide +kernel)) ggL_sets_X7_setAwake
set_option maxRecDepth 20000 in
theorem ggL_sets_X7_vote : GoodIn wsL_sets wsX7_vote := goodIn_ca (goodIn_r _ [74, 9, 10, 75, 12, 13, 7, 14, 15, 16, 17, 18, 19, 20, 11, 21, 22, 23, 24, 25, 26, 27, 28, 29, 30, 31, 32, 33, 34, 35, 36, 37, 38, 39, 40, 41, 42, 43, 44, 45, 46, 47, 48, 49, 50, 51, 52, 53, 54, 55, 56, 57, 58, 59, 60, 61, 62, 76, 69, 70, 283, 284, 285, 286, 287, 288, 289, 290, 291, 292, 293, 294, 295, 296, 297, 298, 299, 300, 301, 302, 303, 304, 305, 306] (by decide +kernel) (by decide +kernel)) (goodIn_sub (fun _ h => List.mem_cons_of_mem _ (List.mem_append_left _ (List.mem_append_left _ (List.mem_append_right _ h)))) (by decide +kernel))
set_option maxRecDepth 20000 in
theorem gL_sets_X7_vote : GoodIn wsL_sets (wsV RL 14 RX7 yX7_vote wsX7_vote) := goodIn_app (goodIn_of _ (by decide +kernel)) ggL_sets_X7_vote
set_option maxRecDepth 20000 in
theorem ggL_sets_X7_addClock : GoodIn wsL_sets wsX7_addClock := goodIn_ca (goodIn_ca (goodIn_ca (goodIn_r _ [80, 81, 82, 9, 10, 83, 84, 85, 86, 87, 88, 89, 90, 91, 12, 13, 7, 14, 92, 93, 94, 95, 15, 16, 17, 18, 19, 20, 11, 21, 22, 23, 24, 25, 26, 27, 28, 29, 30, 31, 32, 33, 34, 35, 36, 37, 38, 39, 40, 41, 42, 43, 44, 45, 46, 47, 48, 49, 50, 51, 52, 53, 54, 55, 56, 57, 58, 59, 60, 61, 62, 96, 97, 98, 99, 100, 101, 102, 103, 104, 283, 284, 285, 286, 287, 288, 289, 290, 291, 292, 293, 294, 295, 307, 308, 309, 310, 311, 312, 296, 297, 298, 299, 300, 301, 302, 303, 304, 305, 306] (by decide +kernel) (by decide +kernel)) (goodIn_sub (fun _ h => List.mem_cons_of_mem _ (List.mem_append_left _ (List.mem_append_right _ h))) (by decide +kernel))) (goodIn_sub (fun _ h => List.mem_cons_of_mem _ (List.mem_append_left _ (List.mem_append_left _ (List.mem_append_right _ h)))) (by decide +kernel))) (goodIn_sub (fun _ h => List.mem_cons_of_mem _ (List.mem_append_right _ h)) (by decide +kernel))
set_option maxRecDepth 20000 in
theorem gL_sets_X7_addClock : GoodIn wsL_sets (wsV RL 18 RX7 yX7_addClock wsX7_addClock) := goodIn_app (goodIn_of _ (by decide +kernel)) ggL_sets_X7_addClock
set_option maxRecDepth 20000 in
theorem ggL_sets_X7_use : GoodIn wsL_sets wsX7_use := goodIn_ca (goodIn_ca (goodIn_r _ [108, 81, 82, 83, 84, 85, 86, 87, 88, 89, 90, 91, 109, 110, 111, 112, 103, 31, 7, 32, 15, 16, 17, 18, 19, 20, 11, 21, 22, 23, 24, 25, 26, 27, 28, 29, 30, 33, 34, 35, 36, 37, 38, 39, 40, 41, 42, 43, 44, 45, 46, 47, 48, 49, 50, 51, 52, 53, 54, 55, 56, 57, 58, 59, 60, 61, 62, 113, 114, 115, 116, 117, 69, 70, 283, 284, 285, 286, 287, 288, 289, 290, 291, 292, 293, 294, 295, 307, 308, 309, 310, 311, 312, 296, 297, 298, 299, 300, 301, 302, 303, 304, 305, 306] (by decide +kernel) (by decide +kernel)) (goodIn_sub (fun _ h => List.mem_cons_of_mem _ (List.mem_append_left _ (List.mem_append_right _ h))) (by decide +kernel))) (goodIn_sub (fun _ h => List.mem_cons_of_mem _ (List.mem_append_right _ h)) (by decide +kernel))
set_option maxRecDepth 20000 in
theorem gL_sets_X7_use : GoodIn wsL_sets (wsV RL 22 RX7 yX7_use wsX7_use) := goodIn_app (goodIn_of _ (by decide +kernel)) ggL_sets_X7_use
set_option maxRecDepth 20000 in
theorem ggL_sets_X7_release : GoodIn wsL_sets wsX7_release := goodIn_ca (goodIn_ca (goodIn_r _ [121, 81, 82, 83, 84, 85, 86, 87, 88, 89, 90, 91, 109, 110, 111, 112, 103, 31, 7, 32, 15, 16, 17, 18, 19, 20, 11, 21, 22, 23, 24, 25, 26, 27, 28, 29, 30, 33, 34, 35, 36, 37, 38, 39, 40, 41, 42, 43, 44, 45, 46, 47, 48, 49, 50, 51, 52, 53, 54, 55, 56, 57, 58, 59, 60, 61, 62, 113, 114, 115, 116, 117, 69, 70, 283, 284, 285, 286, 287, 288, 289, 290, 291, 292, 293, 294, 295, 307, 308, 309, 310, 311, 312, 296, 297, 298, 299, 300, 301, 302, 303, 304, 305, 306] (by decide +kernel) (by decide +kernel)) (goodIn_sub (fun _ h => List.mem_cons_of_mem _ (List.mem_append_left _ (List.mem_append_right _ h))) (by decide +kernel))) (goodIn_sub (fun _ h => List.mem_cons_of_mem _ (List.mem_append_right _ h)) (by decide +kernel))
set_option maxRecDepth 20000 in
theorem gL_sets_X7_release : GoodIn wsL_sets (wsV RL 25 RX7 yX7_release wsX7_release) := goodIn_app (goodIn_of _ (by decide +kernel)) ggL_sets_X7_release
set_option maxRecDepth 20000 in
theorem ggL_sets_X7_schedule : GoodIn wsL_sets wsX7_schedule := goodIn_ca (goodIn_ca (goodIn_r _ [125, 9, 10, 83, 84, 50, 126, 12, 13, 7, 14, 127, 128, 129, 130, 131, 132, 15, 16, 17, 18, 19, 20, 11, 21, 22, 23, 24, 25, 26, 27, 28, 29, 30, 31, 32, 33, 34, 35, 36, 37, 38, 39, 40, 41, 42, 43, 44, 45, 46, 47, 48, 49, 51, 52, 53, 54, 55, 56, 57, 58, 59, 60, 61, 62, 133, 134, 135, 136, 137, 138, 139, 140, 283, 284, 285, 286, 287, 288, 289, 290, 291, 292, 293, 294, 295, 313, 314, 315, 316, 296, 297, 298, 299, 300, 301, 302, 303, 304, 305, 306] (by decide +kernel) (by decide +kernel)) (goodIn_sub (fun _ h => List.mem_cons_of_mem _ (List.mem_append_left _ (List.mem_append_left _ (List.mem_append_right _ h)))) (by decide +kernel))) (goodIn_sub (fun _ h => List.mem_cons_of_mem _ (List.mem_append_right _ h)) (by decide +kernel))
set_option maxRecDepth 20000 in
theorem gL_sets_X7_schedule : GoodIn wsL_sets (wsV RL 28 RX7 yX7_schedule wsX7_schedule) := goodIn_app (goodIn_of _ (by decide +kernel)) ggL_sets_X7_schedule
set_option maxRecDepth 20000 in
theorem ggL_sets_X7_addEvent : GoodIn wsL_sets wsX7_addEvent := goodIn_ca (goodIn_ca (goodIn_r _ [144, 9, 10, 83, 84, 50, 145, 12, 13, 7, 14, 127, 128, 129, 130, 131, 132, 133, 134, 135, 136, 137, 138, 139, 140, 283, 284, 285, 286, 287, 288, 289, 290, 291, 292, 293, 294, 295, 313, 314, 315, 316] (by decide +kernel) (by decide +kernel)) (goodIn_sub (fun _ h => List.mem_cons_of_mem _ (List.mem_append_left _ (List.mem_append_left _ (List.mem_append_right _ h)))) (by decide +kernel))) (goodIn_sub (fun _ h => List.mem_cons_of_mem _ (List.mem_append_right _ h)) (by decide +kernel))
set_option maxRecDepth 20000 in
theorem gL_sets_X7_addEvent : GoodIn wsL_sets (wsV RL 31 RX7 yX7_addEvent wsX7_addEvent) := goodIn_app (goodIn_of _ (by decide +kernel)) ggL_sets_X7_addEvent
set_option maxRecDepth 20000 in
theorem ggL_sets_X7_setRule : GoodIn wsL_sets wsX7_setRule := goodIn_ca (goodIn_r _ [149, 9, 10, 150, 12, 13, 7, 14, 15, 16, 17, 18, 19, 20, 11, 21, 22, 23, 24, 25, 26, 27, 28, 29, 30, 31, 32, 33, 34, 35, 36, 37, 38, 39, 40, 41, 42, 43, 44, 45, 46, 47, 48, 49, 50, 51, 52, 53, 54, 55, 56, 57, 58, 59, 60, 61, 62, 283, 284, 285, 286, 287, 288, 289, 290, 291, 292, 293, 294, 295, 296, 297, 298, 299, 300, 301, 302, 303, 304, 305, 306] (by decide +kernel) (by decide +kernel)) (goodIn_sub (fun _ h => List.mem_cons_of_mem _ (List.mem_append_left _ (List.mem_append_left _ (List.mem_append_right _ h)))) (by decide +kernel))
set_option maxRecDepth 20000 in
theorem gL_sets_X7_setRule : GoodIn wsL_sets (wsV RL 34 RX7 yX7_setRule wsX7_setRule) := goodIn_app (goodIn_of _ (by decide +kernel)) ggL_sets_X7_setRule
set_option maxRecDepth 20000 in
theorem ggL_sets_X7_play : GoodIn wsL_sets wsX7_play := goodIn_ca (goodIn_r _ [154, 9, 10, 50, 12, 13, 7, 14, 155, 156, 157, 158, 19, 20, 159, 160, 161, 162, 163, 145, 11, 164, 165, 166, 167, 168, 169, 170, 171, 172, 126, 173, 174, 175, 130, 176, 132, 137, 138, 177, 178, 179, 180, 21, 22, 23, 24, 25, 26, 27, 28, 29, 30, 31, 32, 33, 34, 35, 36, 37, 38, 39, 40, 41, 42, 43, 44, 181, 45, 46, 47, 48, 49, 51, 52, 53, 54, 55, 56, 57, 58, 59, 60, 61, 62, 182, 183, 184, 185, 186, 187, 188, 189, 139, 63, 190, 191, 192, 193, 150, 194, 195, 196, 197, 198, 85, 75, 199, 200, 201, 89, 202, 91, 203, 102, 204, 205, 206, 207, 208, 103, 100, 209, 87, 88, 90, 210, 211, 212, 213, 214, 215, 216, 217, 218, 219, 220, 221, 222, 223, 224, 225, 226, 227, 228, 229, 230, 68, 231, 232, 233, 234, 235, 236, 237, 238, 239, 240, 69, 70, 241, 242, 243, 244, 245, 246, 247, 248, 249, 250, 251, 252, 253, 254, 255, 256, 257, 258, 259, 260, 261, 262, 263, 264, 265, 266, 267, 268, 269, 270, 271, 272, 273, 274, 275, 276, 277, 278, 283, 284, 285, 286, 287, 288, 289, 290, 291, 292, 293, 294, 295, 299, 300, 301, 302, 303, 304, 313, 314, 315, 316, 296, 297, 298, 305, 306, 307, 308, 309, 310, 311, 312, 317, 318, 319, 320] (by decide +kernel) (by decide +kernel)) (goodIn_sub (fun _ h => List.mem_cons_of_mem _ (List.mem_append_left _ (List.mem_append_left _ (List.mem_append_right _ h)))) (by decide +kernel))
set_option maxRecDepth 20000 in
theorem gL_sets_X7_play : GoodIn wsL_sets (wsV RL 37 RX7 yX7_play wsX7_play) := goodIn_app (goodIn_of _ (by decide +kernel)) ggL_sets_X7_play
set_option maxRecDepth 20000 in
theorem ggL_sets_X7_setHarvest : GoodIn wsL_sets wsX7_setHarvest := goodIn_ca (goodIn_r _ [282, 9, 10, 159, 12, 13, 7, 14, 76, 69, 70, 283, 284, 285, 286, 287, 288, 289, 290, 291, 292, 293, 294, 295, 317, 318, 319, 320] (by decide +kernel) (by decide +kernel)) (goodIn_sub (fun _ h => List.mem_cons_of_mem _ (List.mem_append_left _ (List.mem_append_left _ (List.mem_append_right _ h)))) (by decide +kernel))
set_option maxRecDepth 20000 in
theorem gL_sets_X7_setHarvest : GoodIn wsL_sets (wsV RL 40 RX7 yX7_setHarvest wsX7_setHarvest) := goodIn_app (goodIn_of _ (by decide +kernel)) ggL_sets_X7_setHarvest
set_option maxRecDepth 20000 in
theorem ggL_state_X7_setState : GoodIn wsL_state wsX7_setState := goodIn_ca (goodIn_r _ [6, 7, 8, 9, 10, 11, 5, 12, 13, 14, 15, 16, 17, 18, 19, 20, 21, 22, 23, 24, 25, 26, 27, 28, 29, 30, 31, 32, 33, 34, 35, 36, 37, 38, 39, 40, 41, 42, 43, 44, 45, 46, 47, 48, 49, 50, 51, 52, 53, 54, 55, 56, 57, 58, 59, 60, 61, 62, 63, 64, 65, 66, 67, 68, 69, 70, 71, 72, 73, 74, 75, 76, 77, 78, 79, 80, 81, 82, 83, 84, 85, 86, 87, 88, 89, 90, 91] (by decide +kernel) (by decide +kernel)) (goodIn_sub (fun _ h => List.mem_cons_of_mem _ (List.mem_append_right _ h)) (by decide +kernel))
set_option maxRecDepth 20000 in
theorem gL_state_X7_setState : GoodIn wsL_state (wsV RL 49 RX7 yX7_setState wsX7_setState) := goodIn_app (goodIn_of _ (by decide +kernel)) ggL_state_X7_setState
set_option maxRecDepth 20000 in
theorem ggL_all_X7_now : GoodIn wsL_all wsX7_now := goodIn_r _ [14, 15, 168, 169, 170, 171, 172, 173, 174, 175, 176, 177, 178, 179, 180] (by decide +kernel) (by decide +kernel)
set_option maxRecDepth 20000 in
theorem gL_all_X7_now : GoodIn wsL_all (wsV RL 53 RX7 yX7_now wsX7_now) := goodIn_app (goodIn_of _ (by decide +kernel)) ggL_all_X7_now
set_option maxRecDepth 20000 in
theorem ggL_all_X7_state : GoodIn wsL_all wsX7_state := goodIn_r _ [19, 20, 168, 169, 170, 171, 172, 173, 174, 175, 176, 177, 178, 179, 180] (by decide +kernel) (by decide +kernel)
set_option maxRecDepth 20000 in
theorem gL_all_X7_state : GoodIn wsL_all (wsV RL 59 RX7 yX7_state wsX7_state) := goodIn_app (goodIn_of _ (by decide +kernel)) ggL_all_X7_state
set_option maxRecDepth 20000 in
theorem ggL_all_X7_spent : GoodIn wsL_all wsX7_spent := goodIn_r _ [24, 25, 168, 169, 170, 171, 172, 173, 174, 175, 176, 177, 178, 179, 180, 181, 182, 183, 184, 185, 186] (by decide +kernel) (by decide +kernel)
set_option maxRecDepth 20000 in
theorem gL_all_X7_spent : GoodIn wsL_all (wsV RL 64 RX7 yX7_spent wsX7_spent) := goodIn_app (goodIn_of _ (by decide +kernel)) ggL_all_X7_spent
set_option maxRecDepth 20000 in
theorem ggL_all_X7_sleeps : GoodIn wsL_all wsX7_sleeps := goodIn_r _ [29, 25, 168, 169, 170, 171, 172, 173, 174, 175, 176, 177, 178, 179, 180, 181, 182, 183, 184, 185, 186] (by decide +kernel) (by decide +kernel)
set_option maxRecDepth 20000 in
theorem gL_all_X7_sleeps : GoodIn wsL_all (wsV RL 70 RX7 yX7_sleeps wsX7_sleeps) := goodIn_app (goodIn_of _ (by decide +kernel)) ggL_all_X7_sleeps
set_option maxRecDepth 20000 in
theorem ggL_all_X7_lateness : GoodIn wsL_all wsX7_lateness := goodIn_r _ [33, 25, 168, 169, 170, 171, 172, 173, 174, 175, 176, 177, 178, 179, 180, 181, 182, 183, 184, 185, 186] (by decide +kernel) (by decide +kernel)
set_option maxRecDepth 20000 in
theorem gL_all_X7_lateness : GoodIn wsL_all (wsV RL 73 RX7 yX7_lateness wsX7_lateness) := goodIn_app (goodIn_of _ (by decide +kernel)) ggL_all_X7_lateness
set_option maxRecDepth 20000 in
theorem ggL_all_X7_served : GoodIn wsL_all wsX7_served := goodIn_r _ [37, 25, 168, 169, 170, 171, 172, 173, 174, 175, 176, 177, 178, 179, 180, 181, 182, 183, 184, 185, 186] (by decide +kernel) (by decide +kernel)
set_option maxRecDepth 20000 in
theorem gL_all_X7_served : GoodIn wsL_all (wsV RL 76 RX7 yX7_served wsX7_served) := goodIn_app (goodIn_of _ (by decide +kernel)) ggL_all_X7_served
set_option maxRecDepth 20000 in
theorem ggL_all_X7_available : GoodIn wsL_all wsX7_available := goodIn_r _ [41, 42, 168, 169, 170, 171, 172, 173, 174, 175, 176, 177, 178, 179, 180, 187, 188, 189, 190] (by decide +kernel) (by decide +kernel)
set_option maxRecDepth 20000 in
theorem gL_all_X7_available : GoodIn wsL_all (wsV RL 81 RX7 yX7_available wsX7_available) := goodIn_app (goodIn_of _ (by decide +kernel)) ggL_all_X7_available
set_option maxRecDepth 20000 in
theorem ggL_all_X7_bound : GoodIn wsL_all wsX7_bound := goodIn_r _ [46, 42, 168, 169, 170, 171, 172, 173, 174, 175, 176, 177, 178, 179, 180, 187, 188, 189, 190] (by decide +kernel) (by decide +kernel)
set_option maxRecDepth 20000 in
theorem gL_all_X7_bound : GoodIn wsL_all (wsV RL 86 RX7 yX7_bound wsX7_bound) := goodIn_app (goodIn_of _ (by decide +kernel)) ggL_all_X7_bound
set_option maxRecDepth 20000 in
theorem ggL_all_X7_shortTicks : GoodIn wsL_all wsX7_shortTicks := goodIn_r _ [50, 42, 168, 169, 170, 171, 172, 173, 174, 175, 176, 177, 178, 179, 180, 187, 188, 189, 190] (by decide +kernel) (by decide +kernel)
set_option maxRecDepth 20000 in
theorem gL_all_X7_shortTicks : GoodIn wsL_all (wsV RL 89 RX7 yX7_shortTicks wsX7_shortTicks) := goodIn_app (goodIn_of _ (by decide +kernel)) ggL_all_X7_shortTicks
set_option maxRecDepth 20000 in
theorem ggL_all_X7_timers : GoodIn wsL_all wsX7_timers := goodIn_r _ [54, 55, 168, 169, 170, 171, 172, 173, 174, 175, 176, 177, 178, 179, 180, 191, 192, 193, 194] (by decide +kernel) (by decide +kernel)
set_option maxRecDepth 20000 in
theorem gL_all_X7_timers : GoodIn wsL_all (wsV RL 94 RX7 yX7_timers wsX7_timers) := goodIn_app (goodIn_of _ (by decide +kernel)) ggL_all_X7_timers
set_option maxRecDepth 20000 in
theorem ggL_all_X7_depth : GoodIn wsL_all wsX7_depth := goodIn_r _ [59, 60, 61, 62, 63, 64, 65, 66, 67, 68, 69, 70, 71, 72, 73, 74, 75, 76, 77, 78, 79, 80, 81, 82, 83, 84, 168, 169, 170, 171, 172, 173, 174, 175, 176, 177, 178, 179, 180, 195, 196, 197, 198, 199, 200] (by decide +kernel) (by decide +kernel)
set_option maxRecDepth 20000 in
theorem gL_all_X7_depth : GoodIn wsL_all (wsV RL 97 RX7 yX7_depth wsX7_depth) := goodIn_app (goodIn_of _ (by decide +kernel)) ggL_all_X7_depth
set_option maxRecDepth 20000 in
theorem ggL_all_X7_nextWakeup : GoodIn wsL_all wsX7_nextWakeup := goodIn_r _ [88, 55, 89, 90, 91, 92, 93, 94, 95, 96, 97, 168, 169, 170, 171, 172, 173, 174, 175, 176, 177, 178, 179, 180, 191, 192, 193, 194] (by decide +kernel) (by decide +kernel)
set_option maxRecDepth 20000 in
theorem gL_all_X7_nextWakeup : GoodIn wsL_all (wsV RL 102 RX7 yX7_nextWakeup wsX7_nextWakeup) := goodIn_app (goodIn_of _ (by decide +kernel)) ggL_all_X7_nextWakeup
set_option maxRecDepth 20000 in
theorem ggL_all_X7_breakEven : GoodIn wsL_all wsX7_breakEven := goodIn_ca (goodIn_r _ [101, 102, 103, 104, 105, 106, 13, 107, 108, 109, 110, 111, 112, 113, 114, 115, 116, 117, 118, 119, 120, 121, 122, 123, 124, 125, 126, 127, 128, 129, 168, 169, 170, 171, 172, 173, 174, 175, 176, 177, 178, 179, 180, 201, 202, 203] (by decide +kernel) (by decide +kernel)) (goodIn_sub (fun _ h => List.mem_cons_of_mem _ (List.mem_append_right _ h)) (by decide +kernel))
set_option maxRecDepth 20000 in
theorem gL_all_X7_breakEven : GoodIn wsL_all (wsV RL 107 RX7 yX7_breakEven wsX7_breakEven) := goodIn_app (goodIn_of _ (by decide +kernel)) ggL_all_X7_breakEven
set_option maxRecDepth 20000 in
theorem ggL_all_X7_ticksIn : GoodIn wsL_all wsX7_ticksIn := goodIn_ca (goodIn_r _ [133, 102, 103, 25, 105, 106, 13, 107, 134, 118, 119, 168, 169, 170, 171, 172, 173, 174, 175, 176, 177, 178, 179, 180, 181, 182, 183, 184, 185, 186] (by decide +kernel) (by decide +kernel)) (goodIn_sub (fun _ h => List.mem_cons_of_mem _ (List.mem_append_right _ h)) (by decide +kernel))
set_option maxRecDepth 20000 in
theorem gL_all_X7_ticksIn : GoodIn wsL_all (wsV RL 110 RX7 yX7_ticksIn wsX7_ticksIn) := goodIn_app (goodIn_of _ (by decide +kernel)) ggL_all_X7_ticksIn
set_option maxRecDepth 20000 in
theorem ggL_all_X7_plannedCost : GoodIn wsL_all wsX7_plannedCost := goodIn_ca (goodIn_r _ [138, 102, 103, 15, 139, 55, 104, 105, 106, 13, 107, 140, 57, 58, 59, 60, 61, 62, 63, 64, 65, 66, 67, 68, 69, 70, 71, 72, 73, 74, 75, 76, 77, 78, 79, 80, 81, 82, 83, 84, 141, 142, 143, 144, 145, 146, 147, 148, 149, 150, 91, 92, 93, 94, 95, 96, 97, 151, 152, 153, 111, 154, 155, 156, 157, 158, 159, 109, 110, 112, 113, 114, 115, 116, 117, 118, 119, 120, 121, 122, 123, 124, 125, 126, 127, 128, 129, 160, 161, 162, 163, 164, 165, 166, 167, 168, 169, 170, 171, 172, 173, 174, 175, 176, 177, 178, 179, 180, 195, 196, 197, 198, 199, 200, 191, 192, 193, 194, 201, 202, 203] (by decide +kernel) (by decide +kernel)) (goodIn_sub (fun _ h => List.mem_cons_of_mem _ (List.mem_append_right _ h)) (by decide +kernel))
set_option maxRecDepth 20000 in
theorem gL_all_X7_plannedCost : GoodIn wsL_all (wsV RL 115 RX7 yX7_plannedCost wsX7_plannedCost) := goodIn_app (goodIn_of _ (by decide +kernel)) ggL_all_X7_plannedCost
set_option maxRecDepth 20000 in
theorem ggL_woke_X7_state : GoodIn wsL_woke wsX7_state := goodIn_r _ [5, 6, 12, 13, 14, 15, 16, 17, 18, 19, 20, 21, 22, 23, 24] (by decide +kernel) (by decide +kernel)
set_option maxRecDepth 20000 in
theorem gL_woke_X7_state : GoodIn wsL_woke (wsV RL 59 RX7 yX7_state wsX7_state) := goodIn_app (goodIn_of _ (by decide +kernel)) ggL_woke_X7_state
set_option maxRecDepth 20000 in
theorem ggL_woke_X7_spent : GoodIn wsL_woke wsX7_spent := goodIn_r _ [10, 11, 12, 13, 14, 15, 16, 17, 18, 19, 20, 21, 22, 23, 24, 25, 26, 27, 28, 29, 30] (by decide +kernel) (by decide +kernel)
set_option maxRecDepth 20000 in
theorem gL_woke_X7_spent : GoodIn wsL_woke (wsV RL 64 RX7 yX7_spent wsX7_spent) := goodIn_app (goodIn_of _ (by decide +kernel)) ggL_woke_X7_spent
set_option maxRecDepth 20000 in
theorem ggL_changes_L_some : GoodIn wsL_changes wsL_some := goodIn_r _ [4] (by decide +kernel) (by decide +kernel)
set_option maxRecDepth 20000 in
theorem gL_changes_L_some : GoodIn wsL_changes (va_wsS RL 119 yL_some wsL_some) := goodIn_app (goodIn_of _ (by decide +kernel)) ggL_changes_L_some
set_option maxRecDepth 20000 in
theorem ggL_changes_X7_state : GoodIn wsL_changes wsX7_state := goodIn_r _ [9, 10, 397, 398, 399, 400, 401, 402, 403, 404, 405, 406, 407, 408, 409] (by decide +kernel) (by decide +kernel)
set_option maxRecDepth 20000 in
theorem gL_changes_X7_state : GoodIn wsL_changes (wsV RL 59 RX7 yX7_state wsX7_state) := goodIn_app (goodIn_of _ (by decide +kernel)) ggL_changes_X7_state
set_option maxRecDepth 20000 in
theorem ggL_changes_X7_spent : GoodIn wsL_changes wsX7_spent := goodIn_r _ [14, 15, 397, 398, 399, 400, 401, 402, 403, 404, 405, 406, 407, 408, 409, 410, 411, 412, 413, 414, 415] (by decide +kernel) (by decide +kernel)
set_option maxRecDepth 20000 in
theorem gL_changes_X7_spent : GoodIn wsL_changes (wsV RL 64 RX7 yX7_spent wsX7_spent) := goodIn_app (goodIn_of _ (by decide +kernel)) ggL_changes_X7_spent
set_option maxRecDepth 20000 in
theorem ggL_changes_L_all : GoodIn wsL_changes wsL_all := goodIn_ca (goodIn_r _ [18, 19, 20, 21, 22, 23, 24, 25, 26, 27, 28, 29, 30, 8, 31, 32, 5, 6, 7, 9, 10, 11, 12, 13, 14, 15, 33, 34, 35, 36, 37, 38, 39, 40, 41, 42, 43, 44, 45, 46, 47, 48, 49, 50, 51, 52, 53, 54, 55, 56, 57, 58, 59, 60, 61, 62, 63, 64, 65, 66, 67, 68, 69, 70, 71, 72, 73, 74, 75, 76, 77, 78, 79, 80, 81, 82, 83, 84, 85, 86, 87, 88, 89, 90, 91, 92, 93, 94, 95, 96, 97, 98, 99, 100, 101, 102, 103, 104, 105, 106, 107, 108, 109, 110, 111, 112, 113, 114, 115, 116, 117, 118, 119, 120, 121, 122, 123, 124, 125, 126, 127, 128, 129, 130, 131, 132, 133, 134, 135, 136, 137, 138, 139, 140, 141, 142, 143, 144, 145, 146, 147, 148, 149, 150, 151, 152, 153, 154, 155, 156, 157, 158, 159, 160, 161, 162, 163, 164, 165, 166, 167, 168, 169, 170, 171, 172, 173, 174, 397, 398, 399, 400, 401, 402, 403, 404, 405, 406, 407, 408, 409, 410, 411, 412, 413, 414, 415, 416, 417, 418, 419, 420, 421, 422, 423, 424, 425, 426, 427, 428, 429, 430, 431, 432] (by decide +kernel) (by decide +kernel)) (goodIn_sub (fun _ h => List.mem_cons_of_mem _ (List.mem_append_left _ (List.mem_append_left _ (List.mem_append_right _ h)))) (by decide +kernel))
set_option maxRecDepth 20000 in
theorem gL_changes_L_all : GoodIn wsL_changes (va_wsS RL 124 yL_all wsL_all) := goodIn_app (goodIn_of _ (by decide +kernel)) ggL_changes_L_all
set_option maxRecDepth 20000 in
theorem ggL_changes_L_state : GoodIn wsL_changes wsL_state := goodIn_ca (goodIn_r _ [177, 178, 179, 180, 181, 8, 182, 109, 110, 111, 112, 113, 114, 183, 184, 185, 186, 10, 15, 187, 172, 173, 118, 174, 132, 133, 134, 135, 136, 125, 126, 127, 128, 129, 130, 131, 188, 189, 190, 191, 192, 193, 194, 195, 196, 197, 198, 199, 32, 200, 201, 202, 203, 204, 205, 206, 207, 208, 70, 71, 72, 209, 210, 211, 212, 124, 213, 214, 397, 398, 399, 400, 401, 402, 403, 404, 405, 406, 407, 408, 409, 430, 431, 432, 410, 411, 412, 413, 414, 415, 433, 434] (by decide +kernel) (by decide +kernel)) (goodIn_sub (fun _ h => List.mem_cons_of_mem _ (List.mem_append_left _ (List.mem_append_left _ (List.mem_append_right _ h)))) (by decide +kernel))
set_option maxRecDepth 20000 in
theorem gL_changes_L_state : GoodIn wsL_changes (va_wsS RL 128 yL_state wsL_state) := goodIn_app (goodIn_of _ (by decide +kernel)) ggL_changes_L_state
set_option maxRecDepth 20000 in
theorem ggL_changes_L_woke : GoodIn wsL_changes wsL_woke := goodIn_r _ [217, 5, 6, 7, 8, 9, 10, 11, 12, 13, 14, 15, 397, 398, 399, 400, 401, 402, 403, 404, 405, 406, 407, 408, 409, 410, 411, 412, 413, 414, 415] (by decide +kernel) (by decide +kernel)
set_option maxRecDepth 20000 in
theorem gL_changes_L_woke : GoodIn wsL_changes (va_wsS RL 131 yL_woke wsL_woke) := goodIn_app (goodIn_of _ (by decide +kernel)) ggL_changes_L_woke
set_option maxRecDepth 20000 in
theorem ggL_changes_X7_breakEven : GoodIn wsL_changes wsX7_breakEven := goodIn_ca (goodIn_r _ [108, 109, 110, 111, 112, 113, 8, 114, 115, 116, 117, 118, 119, 120, 121, 122, 123, 124, 125, 126, 127, 128, 129, 130, 131, 132, 133, 134, 135, 136, 397, 398, 399, 400, 401, 402, 403, 404, 405, 406, 407, 408, 409, 430, 431, 432] (by decide +kernel) (by decide +kernel)) (goodIn_sub (fun _ h => List.mem_cons_of_mem _ (List.mem_append_left _ (List.mem_append_left _ (List.mem_append_right _ h)))) (by decide +kernel))
set_option maxRecDepth 20000 in
theorem gL_changes_X7_breakEven : GoodIn wsL_changes (wsV RL 107 RX7 yX7_breakEven wsX7_breakEven) := goodIn_app (goodIn_of _ (by decide +kernel)) ggL_changes_X7_breakEven
set_option maxRecDepth 20000 in
theorem ggL_changes_L_sets : GoodIn wsL_changes wsL_sets := goodIn_ca (goodIn_ca (goodIn_ca (goodIn_r _ [220, 221, 178, 222, 223, 224, 225, 8, 226, 109, 110, 111, 112, 113, 114, 183, 184, 185, 186, 10, 15, 187, 172, 173, 118, 174, 132, 133, 134, 135, 136, 125, 126, 127, 128, 129, 130, 131, 188, 189, 190, 191, 192, 193, 194, 195, 196, 197, 198, 199, 32, 200, 201, 202, 203, 204, 205, 206, 207, 208, 70, 71, 72, 227, 209, 210, 211, 212, 124, 213, 214, 228, 229, 230, 231, 68, 232, 233, 234, 235, 236, 237, 238, 239, 240, 67, 241, 89, 90, 76, 91, 78, 242, 243, 244, 245, 246, 247, 248, 249, 87, 250, 80, 86, 251, 252, 253, 254, 255, 256, 257, 258, 259, 260, 261, 262, 263, 264, 265, 266, 267, 268, 269, 270, 271, 272, 62, 273, 274, 275, 100, 276, 102, 277, 278, 279, 280, 103, 104, 281, 282, 283, 284, 285, 286, 287, 288, 289, 290, 291, 292, 293, 294, 295, 296, 297, 298, 299, 300, 49, 301, 302, 303, 304, 305, 306, 307, 308, 96, 309, 93, 94, 95, 97, 98, 99, 101, 310, 311, 312, 313, 314, 315, 316, 317, 318, 319, 320, 321, 322, 323, 324, 325, 326, 69, 147, 64, 65, 66, 73, 74, 75, 77, 79, 81, 82, 83, 84, 85, 88, 327, 328, 329, 330, 331, 332, 333, 334, 335, 336, 163, 164, 165, 166, 116, 117, 119, 120, 121, 122, 123, 337, 338, 339, 340, 341, 342, 343, 344, 345, 346, 347, 348, 349, 350, 351, 352, 353, 354, 355, 356, 357, 358, 359, 360, 361, 362, 363, 364, 365, 366, 367, 368, 369, 370, 371, 372, 373, 374, 375, 376, 377, 378, 379, 380, 381, 382, 383, 384, 385, 386, 387, 388, 397, 398, 399, 400, 401, 402, 403, 404, 405, 406, 407, 408, 409, 430, 431, 432, 410, 411, 412, 413, 414, 415, 433, 434, 424, 425, 426, 427, 428, 429, 420, 421, 422, 423, 416, 417, 418, 419] (by decide +kernel) (by decide +kernel)) (goodIn_sub (fun _ h => List.mem_cons_of_mem _ (List.mem_append_left _ (List.mem_append_left _ (List.mem_append_right _ h)))) (by decide +kernel))) (goodIn_sub (fun _ h => List.mem_cons_of_mem _ (List.mem_append_left _ (List.mem_append_right _ h))) (by decide +kernel))) (goodIn_sub (fun _ h => List.mem_cons_of_mem _ (List.mem_append_right _ h)) (by decide +kernel))
set_option maxRecDepth 20000 in
theorem gL_changes_L_sets : GoodIn wsL_changes (va_wsS RL 135 yL_sets wsL_sets) := goodIn_app (goodIn_of _ (by decide +kernel)) ggL_changes_L_sets
set_option maxRecDepth 20000 in
theorem ggL_changes_X7_depth : GoodIn wsL_changes wsX7_depth := goodIn_r _ [66, 67, 68, 69, 70, 71, 72, 73, 74, 75, 76, 77, 78, 79, 80, 81, 82, 83, 84, 85, 86, 87, 88, 89, 90, 91, 397, 398, 399, 400, 401, 402, 403, 404, 405, 406, 407, 408, 409, 424, 425, 426, 427, 428, 429] (by decide +kernel) (by decide +kernel)
set_option maxRecDepth 20000 in
theorem gL_changes_X7_depth : GoodIn wsL_changes (wsV RL 97 RX7 yX7_depth wsX7_depth) := goodIn_app (goodIn_of _ (by decide +kernel)) ggL_changes_X7_depth
set_option maxRecDepth 20000 in
theorem ggL_changes_X7_runs : GoodIn wsL_changes wsX7_runs := goodIn_ca (goodIn_r _ [392, 237, 238, 67, 241, 89, 90, 76, 91, 78, 393, 394, 395, 396, 79, 82, 83, 84, 85, 86, 87, 88, 397, 398, 399, 400, 401, 402, 403, 404, 405, 406, 407, 408, 409, 424, 425, 426, 427, 428, 429] (by decide +kernel) (by decide +kernel)) (goodIn_sub (fun _ h => List.mem_cons_of_mem _ (List.mem_append_left _ (List.mem_append_right _ h))) (by decide +kernel))
set_option maxRecDepth 20000 in
theorem gL_changes_X7_runs : GoodIn wsL_changes (wsV RL 138 RX7 yX7_runs wsX7_runs) := goodIn_app (goodIn_of _ (by decide +kernel)) ggL_changes_X7_runs
set_option maxRecDepth 20000 in
theorem ggL_times_L_some : GoodIn wsL_times wsL_some := goodIn_r _ [4] (by decide +kernel) (by decide +kernel)
set_option maxRecDepth 20000 in
theorem gL_times_L_some : GoodIn wsL_times (va_wsS RL 119 yL_some wsL_some) := goodIn_app (goodIn_of _ (by decide +kernel)) ggL_times_L_some
set_option maxRecDepth 20000 in
theorem ggL_times_X7_state : GoodIn wsL_times wsX7_state := goodIn_r _ [9, 10, 382, 383, 384, 385, 386, 387, 388, 389, 390, 391, 392, 393, 394] (by decide +kernel) (by decide +kernel)
set_option maxRecDepth 20000 in
theorem gL_times_X7_state : GoodIn wsL_times (wsV RL 59 RX7 yX7_state wsX7_state) := goodIn_app (goodIn_of _ (by decide +kernel)) ggL_times_X7_state
set_option maxRecDepth 20000 in
theorem ggL_times_X7_spent : GoodIn wsL_times wsX7_spent := goodIn_r _ [14, 15, 382, 383, 384, 385, 386, 387, 388, 389, 390, 391, 392, 393, 394, 395, 396, 397, 398, 399, 400] (by decide +kernel) (by decide +kernel)
set_option maxRecDepth 20000 in
theorem gL_times_X7_spent : GoodIn wsL_times (wsV RL 64 RX7 yX7_spent wsX7_spent) := goodIn_app (goodIn_of _ (by decide +kernel)) ggL_times_X7_spent
set_option maxRecDepth 20000 in
theorem ggL_times_L_all : GoodIn wsL_times wsL_all := goodIn_ca (goodIn_r _ [18, 19, 20, 21, 22, 23, 24, 25, 26, 27, 28, 29, 30, 8, 31, 32, 5, 6, 7, 9, 10, 11, 12, 13, 14, 15, 33, 34, 35, 36, 37, 38, 39, 40, 41, 42, 43, 44, 45, 46, 47, 48, 49, 50, 51, 52, 53, 54, 55, 56, 57, 58, 59, 60, 61, 62, 63, 64, 65, 66, 67, 68, 69, 70, 71, 72, 73, 74, 75, 76, 77, 78, 79, 80, 81, 82, 83, 84, 85, 86, 87, 88, 89, 90, 91, 92, 93, 94, 95, 96, 97, 98, 99, 100, 101, 102, 103, 104, 105, 106, 107, 108, 109, 110, 111, 112, 113, 114, 115, 116, 117, 118, 119, 120, 121, 122, 123, 124, 125, 126, 127, 128, 129, 130, 131, 132, 133, 134, 135, 136, 137, 138, 139, 140, 141, 142, 143, 144, 145, 146, 147, 148, 149, 150, 151, 152, 153, 154, 155, 156, 157, 158, 159, 160, 161, 162, 163, 164, 165, 166, 167, 168, 169, 170, 171, 172, 173, 174, 382, 383, 384, 385, 386, 387, 388, 389, 390, 391, 392, 393, 394, 395, 396, 397, 398, 399, 400, 401, 402, 403, 404, 405, 406, 407, 408, 409, 410, 411, 412, 413, 414, 415, 416, 417] (by decide +kernel) (by decide +kernel)) (goodIn_sub (fun _ h => List.mem_cons_of_mem _ (List.mem_append_left _ (List.mem_append_left _ (List.mem_append_right _ h)))) (by decide +kernel))
set_option maxRecDepth 20000 in
theorem gL_times_L_all : GoodIn wsL_times (va_wsS RL 124 yL_all wsL_all) := goodIn_app (goodIn_of _ (by decide +kernel)) ggL_times_L_all
set_option maxRecDepth 20000 in
theorem ggL_times_X7_now : GoodIn wsL_times wsX7_now := goodIn_r _ [31, 32, 382, 383, 384, 385, 386, 387, 388, 389, 390, 391, 392, 393, 394] (by decide +kernel) (by decide +kernel)
set_option maxRecDepth 20000 in
theorem gL_times_X7_now : GoodIn wsL_times (wsV RL 53 RX7 yX7_now wsX7_now) := goodIn_app (goodIn_of _ (by decide +kernel)) ggL_times_X7_now
set_option maxRecDepth 20000 in
theorem ggL_times_X7_timers : GoodIn wsL_times wsX7_timers := goodIn_r _ [61, 62, 382, 383, 384, 385, 386, 387, 388, 389, 390, 391, 392, 393, 394, 405, 406, 407, 408] (by decide +kernel) (by decide +kernel)
set_option maxRecDepth 20000 in
theorem gL_times_X7_timers : GoodIn wsL_times (wsV RL 94 RX7 yX7_timers wsX7_timers) := goodIn_app (goodIn_of _ (by decide +kernel)) ggL_times_X7_timers
set_option maxRecDepth 20000 in
theorem ggL_times_X7_nextWakeup : GoodIn wsL_times wsX7_nextWakeup := goodIn_r _ [95, 62, 96, 97, 98, 99, 100, 101, 102, 103, 104, 382, 383, 384, 385, 386, 387, 388, 389, 390, 391, 392, 393, 394, 405, 406, 407, 408] (by decide +kernel) (by decide +kernel)
set_option maxRecDepth 20000 in
theorem gL_times_X7_nextWakeup : GoodIn wsL_times (wsV RL 102 RX7 yX7_nextWakeup wsX7_nextWakeup) := goodIn_app (goodIn_of _ (by decide +kernel)) ggL_times_X7_nextWakeup
set_option maxRecDepth 20000 in
theorem ggL_times_L_sets : GoodIn wsL_times wsL_sets := goodIn_ca (goodIn_ca (goodIn_ca (goodIn_r _ [177, 178, 179, 180, 181, 182, 183, 8, 184, 109, 110, 111, 112, 113, 114, 185, 186, 187, 188, 10, 15, 189, 172, 173, 118, 174, 132, 133, 134, 135, 136, 125, 126, 127, 128, 129, 130, 131, 190, 191, 192, 193, 194, 195, 196, 197, 198, 199, 200, 201, 32, 202, 203, 204, 205, 206, 207, 208, 209, 210, 70, 71, 72, 211, 212, 213, 214, 215, 124, 216, 217, 218, 219, 220, 221, 68, 222, 223, 224, 225, 226, 227, 228, 229, 230, 67, 231, 89, 90, 76, 91, 78, 232, 233, 234, 235, 236, 237, 238, 239, 87, 240, 80, 86, 241, 242, 243, 244, 245, 246, 247, 248, 249, 250, 251, 252, 253, 254, 255, 256, 257, 258, 259, 260, 261, 262, 62, 263, 264, 265, 100, 266, 102, 267, 268, 269, 270, 103, 104, 271, 272, 273, 274, 275, 276, 277, 278, 279, 280, 281, 282, 283, 284, 285, 286, 287, 288, 289, 290, 49, 291, 292, 293, 294, 295, 296, 297, 298, 96, 299, 93, 94, 95, 97, 98, 99, 101, 300, 301, 302, 303, 304, 305, 306, 307, 308, 309, 310, 311, 312, 313, 314, 315, 316, 69, 147, 64, 65, 66, 73, 74, 75, 77, 79, 81, 82, 83, 84, 85, 88, 317, 318, 319, 320, 321, 322, 323, 324, 325, 326, 163, 164, 165, 166, 116, 117, 119, 120, 121, 122, 123, 327, 328, 329, 330, 331, 332, 333, 334, 335, 336, 337, 338, 339, 340, 341, 342, 343, 344, 345, 346, 347, 348, 349, 350, 351, 352, 353, 354, 355, 356, 357, 358, 359, 360, 361, 362, 363, 364, 365, 366, 367, 368, 369, 370, 371, 372, 373, 374, 375, 376, 377, 378, 382, 383, 384, 385, 386, 387, 388, 389, 390, 391, 392, 393, 394, 415, 416, 417, 395, 396, 397, 398, 399, 400, 418, 419, 409, 410, 411, 412, 413, 414, 405, 406, 407, 408, 401, 402, 403, 404] (by decide +kernel) (by decide +kernel)) (goodIn_sub (fun _ h => List.mem_cons_of_mem _ (List.mem_append_left _ (List.mem_append_left _ (List.mem_append_right _ h)))) (by decide +kernel))) (goodIn_sub (fun _ h => List.mem_cons_of_mem _ (List.mem_append_left _ (List.mem_append_right _ h))) (by decide +kernel))) (goodIn_sub (fun _ h => List.mem_cons_of_mem _ (List.mem_append_right _ h)) (by decide +kernel))
set_option maxRecDepth 20000 in
theorem gL_times_L_sets : GoodIn wsL_times (va_wsS RL 135 yL_sets wsL_sets) := goodIn_app (goodIn_of _ (by decide +kernel)) ggL_times_L_sets
set_option maxRecDepth 20000 in
theorem ggL_times_L_woke : GoodIn wsL_times wsL_woke := goodIn_r _ [381, 5, 6, 7, 8, 9, 10, 11, 12, 13, 14, 15, 382, 383, 384, 385, 386, 387, 388, 389, 390, 391, 392, 393, 394, 395, 396, 397, 398, 399, 400] (by decide +kernel) (by decide +kernel)
set_option maxRecDepth 20000 in
theorem gL_times_L_woke : GoodIn wsL_times (va_wsS RL 131 yL_woke wsL_woke) := goodIn_app (goodIn_of _ (by decide +kernel)) ggL_times_L_woke
set_option maxRecDepth 20000 in
theorem ggL_plays_X7_now : GoodIn wsL_plays wsX7_now := goodIn_r _ [8, 9, 244, 245, 246, 247, 248, 249, 250, 251, 252, 253, 254, 255, 256] (by decide +kernel) (by decide +kernel)
set_option maxRecDepth 20000 in
theorem gL_plays_X7_now : GoodIn wsL_plays (wsV RL 53 RX7 yX7_now wsX7_now) := goodIn_app (goodIn_of _ (by decide +kernel)) ggL_plays_X7_now
set_option maxRecDepth 20000 in
theorem ggL_plays_X7_state : GoodIn wsL_plays wsX7_state := goodIn_r _ [13, 14, 244, 245, 246, 247, 248, 249, 250, 251, 252, 253, 254, 255, 256] (by decide +kernel) (by decide +kernel)
set_option maxRecDepth 20000 in
theorem gL_plays_X7_state : GoodIn wsL_plays (wsV RL 59 RX7 yX7_state wsX7_state) := goodIn_app (goodIn_of _ (by decide +kernel)) ggL_plays_X7_state
set_option maxRecDepth 20000 in
theorem ggL_plays_X7_nextWakeup : GoodIn wsL_plays wsX7_nextWakeup := goodIn_r _ [18, 19, 20, 21, 22, 23, 24, 25, 26, 27, 28, 244, 245, 246, 247, 248, 249, 250, 251, 252, 253, 254, 255, 256, 257, 258, 259, 260] (by decide +kernel) (by decide +kernel)
set_option maxRecDepth 20000 in
theorem gL_plays_X7_nextWakeup : GoodIn wsL_plays (wsV RL 102 RX7 yX7_nextWakeup wsX7_nextWakeup) := goodIn_app (goodIn_of _ (by decide +kernel)) ggL_plays_X7_nextWakeup
set_option maxRecDepth 20000 in
theorem ggL_plays_X7_served : GoodIn wsL_plays wsX7_served := goodIn_r _ [32, 33, 244, 245, 246, 247, 248, 249, 250, 251, 252, 253, 254, 255, 256, 261, 262, 263, 264, 265, 266] (by decide +kernel) (by decide +kernel)
set_option maxRecDepth 20000 in
theorem gL_plays_X7_served : GoodIn wsL_plays (wsV RL 76 RX7 yX7_served wsX7_served) := goodIn_app (goodIn_of _ (by decide +kernel)) ggL_plays_X7_served
set_option maxRecDepth 20000 in
theorem ggL_plays_X7_sleeps : GoodIn wsL_plays wsX7_sleeps := goodIn_r _ [37, 33, 244, 245, 246, 247, 248, 249, 250, 251, 252, 253, 254, 255, 256, 261, 262, 263, 264, 265, 266] (by decide +kernel) (by decide +kernel)
set_option maxRecDepth 20000 in
theorem gL_plays_X7_sleeps : GoodIn wsL_plays (wsV RL 70 RX7 yX7_sleeps wsX7_sleeps) := goodIn_app (goodIn_of _ (by decide +kernel)) ggL_plays_X7_sleeps
set_option maxRecDepth 20000 in
theorem ggL_plays_X7_lateness : GoodIn wsL_plays wsX7_lateness := goodIn_r _ [41, 33, 244, 245, 246, 247, 248, 249, 250, 251, 252, 253, 254, 255, 256, 261, 262, 263, 264, 265, 266] (by decide +kernel) (by decide +kernel)
set_option maxRecDepth 20000 in
theorem gL_plays_X7_lateness : GoodIn wsL_plays (wsV RL 73 RX7 yX7_lateness wsX7_lateness) := goodIn_app (goodIn_of _ (by decide +kernel)) ggL_plays_X7_lateness
set_option maxRecDepth 20000 in
theorem ggL_plays_X7_ticksIn : GoodIn wsL_plays wsX7_ticksIn := goodIn_ca (goodIn_r _ [45, 46, 47, 33, 48, 49, 7, 50, 51, 52, 53, 244, 245, 246, 247, 248, 249, 250, 251, 252, 253, 254, 255, 256, 261, 262, 263, 264, 265, 266] (by decide +kernel) (by decide +kernel)) (goodIn_sub (fun _ h => List.mem_cons_of_mem _ (List.mem_append_right _ h)) (by decide +kernel))
set_option maxRecDepth 20000 in
theorem gL_plays_X7_ticksIn : GoodIn wsL_plays (wsV RL 110 RX7 yX7_ticksIn wsX7_ticksIn) := goodIn_app (goodIn_of _ (by decide +kernel)) ggL_plays_X7_ticksIn
set_option maxRecDepth 20000 in
theorem ggL_plays_X7_spent : GoodIn wsL_plays wsX7_spent := goodIn_r _ [57, 33, 244, 245, 246, 247, 248, 249, 250, 251, 252, 253, 254, 255, 256, 261, 262, 263, 264, 265, 266] (by decide +kernel) (by decide +kernel)
set_option maxRecDepth 20000 in
theorem gL_plays_X7_spent : GoodIn wsL_plays (wsV RL 64 RX7 yX7_spent wsX7_spent) := goodIn_app (goodIn_of _ (by decide +kernel)) ggL_plays_X7_spent
set_option maxRecDepth 20000 in
theorem ggL_plays_X7_available : GoodIn wsL_plays wsX7_available := goodIn_r _ [61, 62, 244, 245, 246, 247, 248, 249, 250, 251, 252, 253, 254, 255, 256, 267, 268, 269, 270] (by decide +kernel) (by decide +kernel)
set_option maxRecDepth 20000 in
theorem gL_plays_X7_available : GoodIn wsL_plays (wsV RL 81 RX7 yX7_available wsX7_available) := goodIn_app (goodIn_of _ (by decide +kernel)) ggL_plays_X7_available
set_option maxRecDepth 20000 in
theorem ggL_plays_X7_bound : GoodIn wsL_plays wsX7_bound := goodIn_r _ [66, 62, 244, 245, 246, 247, 248, 249, 250, 251, 252, 253, 254, 255, 256, 267, 268, 269, 270] (by decide +kernel) (by decide +kernel)
set_option maxRecDepth 20000 in
theorem gL_plays_X7_bound : GoodIn wsL_plays (wsV RL 86 RX7 yX7_bound wsX7_bound) := goodIn_app (goodIn_of _ (by decide +kernel)) ggL_plays_X7_bound
set_option maxRecDepth 20000 in
theorem ggL_plays_X7_play : GoodIn wsL_plays wsX7_play := goodIn_ca (goodIn_r _ [70, 46, 47, 9, 48, 49, 7, 50, 71, 72, 73, 74, 14, 33, 62, 75, 76, 77, 78, 79, 80, 81, 82, 83, 84, 20, 85, 16, 17, 18, 19, 21, 22, 23, 24, 25, 26, 27, 28, 86, 87, 88, 89, 90, 91, 92, 93, 94, 95, 96, 97, 98, 99, 52, 53, 100, 101, 102, 103, 104, 105, 106, 107, 108, 109, 110, 111, 112, 113, 114, 115, 116, 117, 118, 119, 120, 121, 122, 123, 124, 125, 126, 127, 128, 129, 130, 131, 132, 133, 134, 135, 136, 137, 138, 139, 140, 141, 142, 143, 144, 145, 146, 147, 148, 149, 150, 151, 152, 153, 154, 155, 156, 157, 158, 159, 160, 161, 162, 163, 164, 165, 166, 167, 168, 169, 170, 171, 172, 173, 174, 175, 176, 177, 178, 179, 180, 181, 182, 183, 184, 185, 186, 187, 188, 189, 190, 191, 192, 193, 194, 195, 196, 197, 198, 199, 200, 201, 202, 203, 204, 205, 206, 207, 208, 209, 210, 211, 212, 213, 214, 215, 216, 217, 218, 219, 220, 221, 222, 223, 224, 225, 226, 227, 228, 229, 230, 231, 232, 233, 234, 235, 236, 237, 238, 239, 240, 241, 242, 244, 245, 246, 247, 248, 249, 250, 251, 252, 253, 254, 255, 256, 261, 262, 263, 264, 265, 266, 257, 258, 259, 260, 271, 272, 273, 274, 275, 276, 277, 278, 279, 280, 281, 267, 268, 269, 270] (by decide +kernel) (by decide +kernel)) (goodIn_sub (fun _ h => List.mem_cons_of_mem _ (List.mem_append_right _ h)) (by decide +kernel))
set_option maxRecDepth 20000 in
theorem gL_plays_X7_play : GoodIn wsL_plays (wsV RL 37 RX7 yX7_play wsX7_play) := goodIn_app (goodIn_of _ (by decide +kernel)) ggL_plays_X7_play
set_option maxRecDepth 20000 in
theorem ggL_plays_X7_depth : GoodIn wsL_plays wsX7_depth := goodIn_r _ [149, 150, 151, 145, 127, 128, 129, 152, 153, 154, 155, 156, 157, 158, 159, 160, 161, 162, 163, 164, 165, 166, 167, 168, 169, 170, 244, 245, 246, 247, 248, 249, 250, 251, 252, 253, 254, 255, 256, 276, 277, 278, 279, 280, 281] (by decide +kernel) (by decide +kernel)
set_option maxRecDepth 20000 in
theorem gL_plays_X7_depth : GoodIn wsL_plays (wsV RL 97 RX7 yX7_depth wsX7_depth) := goodIn_app (goodIn_of _ (by decide +kernel)) ggL_plays_X7_depth
set_option maxRecDepth 20000 in
theorem ggL_law_X7_init : GoodIn wsL_law wsX7_init := goodIn_r _ [6, 7, 8, 9, 10, 11, 12, 13, 3, 14, 15, 16, 17, 18, 19, 20, 21, 22, 23, 24, 25, 26, 27, 28, 29, 30, 31, 32, 33, 34, 35, 36, 37, 38, 39, 40, 41, 42, 43, 44, 45, 46, 47, 48, 49, 50, 51, 52, 53, 54, 55, 56, 57, 58, 59, 60, 61, 62, 63, 64, 65, 66, 67, 68, 69, 70, 71, 72, 73, 74, 75, 76, 77, 78, 79, 80, 81, 82, 83, 84, 85, 86, 87, 88, 89, 90, 91, 92, 93, 94, 95, 96, 97, 98, 99, 100, 101, 102, 486, 487, 488, 473, 474, 475, 476, 477, 478, 479, 480, 481, 482, 483, 484, 485, 489, 490, 491, 492, 493, 494, 495, 496, 497, 498, 499, 500, 501, 502, 503, 504, 505, 506, 507, 508, 509, 510, 511, 512] (by decide +kernel) (by decide +kernel)
set_option maxRecDepth 20000 in
theorem gL_law_X7_init : GoodIn wsL_law (wsX7_init) := ggL_law_X7_init
set_option maxRecDepth 20000 in
theorem ggL_law_L_begins : GoodIn wsL_law wsL_begins := goodIn_r _ [106] (by decide +kernel) (by decide +kernel)
set_option maxRecDepth 20000 in
theorem gL_law_L_begins : GoodIn wsL_law (va_wsS RL 147 yL_begins wsL_begins) := goodIn_app (goodIn_of _ (by decide +kernel)) ggL_law_L_begins
set_option maxRecDepth 20000 in
theorem ggL_law_L_all : GoodIn wsL_law wsL_all := goodIn_ca (goodIn_r _ [109, 110, 111, 112, 113, 114, 115, 116, 117, 118, 119, 120, 121, 2, 122, 41, 123, 124, 125, 126, 42, 127, 128, 129, 130, 31, 131, 132, 133, 134, 135, 136, 137, 138, 139, 140, 141, 142, 143, 144, 145, 146, 35, 147, 148, 149, 150, 151, 152, 153, 154, 155, 156, 157, 158, 22, 159, 160, 161, 162, 18, 14, 163, 164, 165, 166, 167, 168, 169, 17, 170, 61, 60, 57, 171, 172, 173, 174, 175, 58, 55, 176, 177, 178, 179, 180, 181, 182, 183, 184, 185, 186, 187, 21, 188, 69, 66, 67, 189, 190, 191, 192, 193, 194, 13, 195, 196, 197, 198, 199, 200, 12, 201, 202, 203, 204, 205, 49, 206, 207, 208, 209, 210, 211, 50, 212, 213, 214, 215, 48, 216, 217, 218, 219, 220, 221, 222, 223, 224, 39, 225, 226, 227, 228, 38, 229, 230, 231, 232, 233, 234, 235, 236, 237, 238, 239, 240, 241, 242, 243, 244, 245, 246, 247, 248, 249, 250, 251, 473, 474, 475, 476, 477, 478, 479, 480, 481, 482, 483, 484, 485, 501, 502, 503, 504, 505, 506, 507, 508, 509, 510, 495, 496, 497, 498, 489, 490, 491, 492, 493, 494, 486, 487, 488] (by decide +kernel) (by decide +kernel)) (goodIn_sub (fun _ h => List.mem_append_left _ (List.mem_append_left _ (List.mem_append_right _ h))) (by decide +kernel))
set_option maxRecDepth 20000 in
theorem gL_law_L_all : GoodIn wsL_law (va_wsS RL 124 yL_all wsL_all) := goodIn_app (goodIn_of _ (by decide +kernel)) ggL_law_L_all
set_option maxRecDepth 20000 in
theorem ggL_law_X7_state : GoodIn wsL_law wsX7_state := goodIn_r _ [126, 42, 473, 474, 475, 476, 477, 478, 479, 480, 481, 482, 483, 484, 485] (by decide +kernel) (by decide +kernel)
set_option maxRecDepth 20000 in
theorem gL_law_X7_state : GoodIn wsL_law (wsV RL 59 RX7 yX7_state wsX7_state) := goodIn_app (goodIn_of _ (by decide +kernel)) ggL_law_X7_state
set_option maxRecDepth 20000 in
theorem ggL_law_L_cell : GoodIn wsL_law wsL_cell := goodIn_r _ [254, 255] (by decide +kernel) (by decide +kernel)
set_option maxRecDepth 20000 in
theorem gL_law_L_cell : GoodIn wsL_law (va_wsS RL 151 yL_cell wsL_cell) := goodIn_app (goodIn_of _ (by decide +kernel)) ggL_law_L_cell
set_option maxRecDepth 20000 in
theorem ggL_law_L_some : GoodIn wsL_law wsL_some := goodIn_r _ [258] (by decide +kernel) (by decide +kernel)
set_option maxRecDepth 20000 in
theorem gL_law_L_some : GoodIn wsL_law (va_wsS RL 119 yL_some wsL_some) := goodIn_app (goodIn_of _ (by decide +kernel)) ggL_law_L_some
set_option maxRecDepth 100000 in
set_option maxHeartbeats 4000000 in
theorem ggL_law_L_changes : GoodIn wsL_law wsL_changes := goodIn_ca (goodIn_ca (goodIn_ca (goodIn_c1 (List.mem_of_getElem? (i := 261) rfl) (by decide +kernel) (goodIn_r _ [256, 257, 105, 258, 123, 124, 125, 2, 126, 42, 127, 128, 129, 130, 31, 107, 108, 109, 110, 111, 112, 113, 114, 115, 116, 117, 118, 119, 120, 121, 122, 41, 131, 132, 133, 134, 135, 136, 137, 138, 139, 140, 141, 142, 143, 144, 145, 146, 35, 147, 148, 149, 150, 151, 152, 153, 154, 155, 156, 157, 158, 22, 159, 160, 161, 162, 18, 14, 163, 164, 165, 166, 167, 168, 169, 17, 170, 61, 60, 57, 171, 172, 173, 174, 175, 58, 55, 176, 177, 178, 179, 180, 181, 182, 183, 184, 185, 186, 187, 21, 188, 69, 66, 67, 189, 190, 191, 192, 193, 194, 13, 195, 196, 197, 198, 199, 200, 12, 201, 202, 203, 204, 205, 49, 206, 207, 208, 209, 210, 211, 50, 212, 213, 214, 215, 48, 216, 217, 218, 219, 220, 221, 222, 223, 224, 39, 225, 226, 227, 228, 38, 229, 230, 231, 232, 233, 234, 235, 236, 237, 238, 239, 240, 241, 242, 243, 244, 245, 246, 247, 248, 249, 250, 251, 262, 263, 264, 265, 266, 267, 268, 269, 270, 271, 272, 273, 274, 275, 276, 277, 30, 278, 81, 82, 279, 280, 281, 282, 27, 43, 283, 284, 285, 26, 286, 74, 75, 287, 288, 289, 290, 291, 292, 293, 294, 295, 296, 297, 298, 299, 300, 301, 302, 303, 304, 305, 306, 307, 308, 309, 310, 311, 312, 313, 314, 315, 316, 317, 318, 319, 320, 321, 322, 323, 324, 325, 326, 327, 328, 56, 329, 330, 331, 332, 333, 334, 335, 336, 337, 338, 339, 340, 341, 342, 343, 344, 345, 346, 347, 348, 349, 350, 351, 352, 353, 354, 355, 356, 357, 358, 68, 359, 360, 361, 362, 363, 23, 364, 365, 366, 367, 40, 368, 369, 370, 371, 372, 373, 374, 375, 376, 377, 378, 379, 380, 381, 382, 383, 384, 385, 386, 387, 388, 389, 390, 391, 392, 393, 394, 395, 396, 397, 398, 399, 400, 401, 402, 403, 404, 405, 406, 407, 408, 409, 410, 411, 412, 413, 414, 415, 416, 417, 418, 419, 420, 80, 421, 422, 423, 424, 425, 426, 427, 428, 429, 430, 431, 432, 433, 434, 435, 34, 436, 92, 90, 95, 437, 438, 439, 440, 441, 442, 443, 444, 445, 446, 447, 94, 91, 448, 93, 449, 450, 451, 452, 453, 454, 455, 456, 457, 458, 459, 460, 461, 462, 463, 473, 474, 475, 476, 477, 478, 479, 480, 481, 482, 483, 484, 485, 501, 502, 503, 504, 505, 506, 507, 508, 509, 510, 495, 496, 497, 498, 489, 490, 491, 492, 493, 494, 486, 487, 488, 499, 500] (by decide +kernel) (by decide +kernel))) (goodIn_sub (fun _ h => List.mem_append_left _ (List.mem_append_left _ (List.mem_append_right _ h))) (by decide +kernel))) (goodIn_sub (fun _ h => List.mem_append_left _ (List.mem_append_right _ h)) (by decide +kernel))) (goodIn_sub (fun _ h => List.mem_append_right _ h) (by decide +kernel))
set_option maxRecDepth 20000 in
theorem gL_law_L_changes : GoodIn wsL_law (va_wsS RL 155 yL_changes wsL_changes) := goodIn_app (goodIn_of _ (by decide +kernel)) ggL_law_L_changes
set_option maxRecDepth 100000 in
set_option maxHeartbeats 4000000 in
theorem ggL_law_L_times : GoodIn wsL_law wsL_times := goodIn_ca (goodIn_ca (goodIn_ca (goodIn_c1 (List.mem_of_getElem? (i := 466) rfl) (by decide +kernel) (goodIn_r _ [256, 257, 105, 258, 123, 124, 125, 2, 126, 42, 127, 128, 129, 130, 31, 107, 108, 109, 110, 111, 112, 113, 114, 115, 116, 117, 118, 119, 120, 121, 122, 41, 131, 132, 133, 134, 135, 136, 137, 138, 139, 140, 141, 142, 143, 144, 145, 146, 35, 147, 148, 149, 150, 151, 152, 153, 154, 155, 156, 157, 158, 22, 159, 160, 161, 162, 18, 14, 163, 164, 165, 166, 167, 168, 169, 17, 170, 61, 60, 57, 171, 172, 173, 174, 175, 58, 55, 176, 177, 178, 179, 180, 181, 182, 183, 184, 185, 186, 187, 21, 188, 69, 66, 67, 189, 190, 191, 192, 193, 194, 13, 195, 196, 197, 198, 199, 200, 12, 201, 202, 203, 204, 205, 49, 206, 207, 208, 209, 210, 211, 50, 212, 213, 214, 215, 48, 216, 217, 218, 219, 220, 221, 222, 223, 224, 39, 225, 226, 227, 228, 38, 229, 230, 231, 232, 233, 234, 235, 236, 237, 238, 239, 240, 241, 242, 243, 244, 245, 246, 247, 248, 249, 250, 251, 297, 298, 299, 300, 265, 301, 302, 303, 304, 305, 270, 271, 272, 273, 274, 275, 276, 277, 30, 278, 81, 82, 279, 280, 281, 282, 27, 43, 283, 284, 285, 26, 286, 74, 75, 287, 306, 288, 289, 290, 291, 292, 293, 307, 308, 309, 310, 311, 312, 313, 314, 315, 316, 317, 318, 319, 320, 321, 322, 323, 324, 325, 326, 327, 328, 56, 329, 330, 331, 332, 333, 334, 335, 336, 337, 338, 339, 340, 341, 342, 343, 344, 345, 346, 347, 348, 349, 350, 351, 352, 353, 354, 355, 356, 357, 358, 68, 359, 360, 361, 362, 363, 23, 364, 365, 366, 367, 40, 368, 369, 370, 371, 372, 373, 374, 375, 376, 377, 378, 379, 380, 381, 382, 383, 384, 385, 386, 387, 388, 389, 390, 391, 392, 393, 394, 395, 396, 397, 398, 399, 400, 401, 402, 403, 404, 405, 406, 407, 408, 409, 410, 411, 412, 413, 414, 415, 416, 417, 418, 419, 420, 80, 421, 422, 423, 424, 425, 426, 427, 428, 429, 430, 431, 432, 433, 434, 435, 34, 436, 92, 90, 95, 437, 438, 439, 440, 441, 442, 443, 444, 445, 446, 447, 94, 91, 448, 93, 449, 450, 451, 452, 453, 454, 455, 294, 295, 296, 473, 474, 475, 476, 477, 478, 479, 480, 481, 482, 483, 484, 485, 501, 502, 503, 504, 505, 506, 507, 508, 509, 510, 495, 496, 497, 498, 489, 490, 491, 492, 493, 494, 486, 487, 488, 499, 500] (by decide +kernel) (by decide +kernel))) (goodIn_sub (fun _ h => List.mem_append_left _ (List.mem_append_left _ (List.mem_append_right _ h))) (by decide +kernel))) (goodIn_sub (fun _ h => List.mem_append_left _ (List.mem_append_right _ h)) (by decide +kernel))) (goodIn_sub (fun _ h => List.mem_append_right _ h) (by decide +kernel))
set_option maxRecDepth 20000 in
theorem gL_law_L_times : GoodIn wsL_law (va_wsS RL 159 yL_times wsL_times) := goodIn_app (goodIn_of _ (by decide +kernel)) ggL_law_L_times
set_option maxRecDepth 100000 in
set_option maxHeartbeats 4000000 in
theorem ggL_law_L_plays : GoodIn wsL_law wsL_plays := goodIn_ca (goodIn_c1 (List.mem_of_getElem? (i := 469) rfl) (by decide +kernel) (goodIn_r _ [470, 471, 472, 119, 120, 121, 2, 122, 41, 123, 124, 125, 126, 42, 180, 181, 182, 183, 22, 184, 185, 186, 187, 21, 188, 69, 66, 67, 139, 140, 141, 142, 31, 131, 132, 133, 134, 135, 136, 137, 138, 216, 217, 218, 219, 193, 194, 195, 196, 197, 220, 206, 207, 127, 128, 129, 130, 143, 144, 145, 146, 35, 147, 148, 149, 150, 368, 369, 370, 371, 372, 373, 374, 375, 376, 377, 378, 379, 23, 13, 380, 381, 382, 383, 384, 385, 386, 387, 388, 274, 249, 250, 12, 251, 212, 213, 214, 215, 48, 208, 209, 210, 211, 50, 275, 276, 277, 30, 278, 81, 82, 389, 279, 280, 281, 282, 27, 43, 283, 284, 285, 26, 286, 74, 75, 287, 164, 165, 166, 390, 391, 392, 393, 394, 395, 396, 397, 68, 306, 398, 399, 400, 401, 40, 163, 225, 160, 161, 162, 18, 14, 167, 168, 169, 17, 170, 61, 60, 57, 171, 172, 173, 174, 175, 58, 55, 176, 177, 178, 179, 402, 403, 404, 405, 406, 407, 408, 409, 410, 411, 240, 241, 242, 243, 199, 200, 201, 202, 203, 204, 205, 49, 412, 413, 414, 415, 416, 417, 418, 419, 420, 80, 292, 293, 421, 422, 423, 424, 425, 426, 427, 428, 429, 430, 431, 432, 433, 434, 435, 34, 436, 92, 90, 95, 437, 438, 439, 440, 441, 442, 443, 444, 445, 446, 447, 94, 91, 448, 93, 449, 450, 451, 159, 473, 474, 475, 476, 477, 478, 479, 480, 481, 482, 483, 484, 485, 495, 496, 497, 498, 501, 502, 503, 504, 505, 506, 507, 508, 509, 510, 486, 487, 488, 499, 500, 489, 490, 491, 492, 493, 494] (by decide +kernel) (by decide +kernel))) (goodIn_sub (fun _ h => List.mem_append_left _ (List.mem_append_left _ (List.mem_append_right _ h))) (by decide +kernel))
set_option maxRecDepth 20000 in
theorem gL_law_L_plays : GoodIn wsL_law (va_wsS RL 162 yL_plays wsL_plays) := goodIn_app (goodIn_of _ (by decide +kernel)) ggL_law_L_plays
set_option maxRecDepth 20000 in
theorem ggL_law_L_sets : GoodIn wsL_law wsL_sets := goodIn_ca (goodIn_ca (goodIn_ca (goodIn_r _ [299, 300, 265, 301, 302, 303, 304, 2, 305, 193, 194, 13, 195, 196, 197, 270, 271, 272, 273, 42, 31, 274, 249, 250, 12, 251, 212, 213, 214, 215, 48, 206, 207, 208, 209, 210, 211, 50, 275, 276, 277, 30, 278, 81, 82, 279, 280, 281, 282, 27, 41, 43, 283, 284, 285, 26, 286, 74, 75, 287, 164, 165, 166, 306, 288, 289, 290, 291, 49, 292, 293, 307, 308, 309, 310, 14, 311, 312, 313, 314, 315, 316, 317, 318, 319, 18, 320, 177, 178, 17, 179, 61, 321, 322, 323, 324, 325, 326, 327, 328, 55, 56, 57, 58, 329, 330, 331, 332, 333, 334, 335, 336, 337, 338, 339, 340, 341, 342, 343, 344, 345, 346, 347, 348, 349, 350, 22, 351, 352, 353, 21, 354, 69, 355, 356, 357, 358, 66, 67, 68, 359, 360, 361, 362, 363, 23, 364, 365, 366, 367, 40, 368, 369, 370, 371, 372, 373, 374, 375, 35, 376, 377, 378, 379, 380, 381, 382, 383, 184, 384, 181, 182, 183, 185, 186, 187, 188, 385, 386, 387, 388, 389, 390, 391, 392, 393, 394, 395, 396, 397, 398, 399, 400, 401, 163, 225, 160, 161, 162, 167, 168, 169, 170, 60, 171, 172, 173, 174, 175, 176, 402, 403, 404, 405, 406, 407, 408, 409, 410, 411, 240, 241, 242, 243, 199, 200, 201, 202, 203, 204, 205, 412, 413, 414, 415, 416, 417, 418, 419, 420, 80, 421, 422, 423, 424, 425, 426, 427, 428, 429, 430, 431, 432, 433, 434, 435, 34, 436, 92, 90, 95, 437, 438, 439, 440, 441, 442, 443, 444, 445, 446, 447, 94, 91, 448, 93, 449, 450, 451, 452, 453, 454, 455, 473, 474, 475, 476, 477, 478, 479, 480, 481, 482, 483, 484, 485, 486, 487, 488, 501, 502, 503, 504, 505, 506, 499, 500, 489, 490, 491, 492, 493, 494, 495, 496, 497, 498, 507, 508, 509, 510] (by decide +kernel) (by decide +kernel)) (goodIn_sub (fun _ h => List.mem_append_left _ (List.mem_append_left _ (List.mem_append_right _ h))) (by decide +kernel))) (goodIn_sub (fun _ h => List.mem_append_left _ (List.mem_append_right _ h)) (by decide +kernel))) (goodIn_sub (fun _ h => List.mem_append_right _ h) (by decide +kernel))
set_option maxRecDepth 20000 in
theorem gL_law_L_sets : GoodIn wsL_law (va_wsS RL 135 yL_sets wsL_sets) := goodIn_app (goodIn_of _ (by decide +kernel)) ggL_law_L_sets
