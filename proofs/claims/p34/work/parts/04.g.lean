set_option maxRecDepth 20000 in
theorem ggX0_takeTick_X7_read : GoodIn wsX0_takeTick wsX7_read := goodIn_r _ [14] (by decide +kernel) (by decide +kernel)
set_option maxRecDepth 20000 in
theorem gX0_takeTick_X7_read_n27 : GoodIn wsX0_takeTick (wsX7_read) := ggX0_takeTick_X7_read
set_option maxRecDepth 20000 in
theorem ggX0_takeTick_X0_balance : GoodIn wsX0_takeTick wsX0_balance := goodIn_r _ [19, 20, 1, 21, 22, 23, 7, 24, 25, 26, 27, 28, 29, 30, 31, 32, 33] (by decide +kernel) (by decide +kernel)
set_option maxRecDepth 20000 in
theorem gX0_takeTick_X0_balance : GoodIn wsX0_takeTick (wsV RX0 42 RX0 yX0_balance wsX0_balance) := goodIn_app (goodIn_of _ (by decide +kernel)) ggX0_takeTick_X0_balance
set_option maxRecDepth 20000 in
theorem ggX0_balance_J9_floorDiv_7cf53 : GoodIn wsX0_balance wsJ9_floorDiv_7cf53 := goodIn_r _ [12] (by decide +kernel) (by decide +kernel)
set_option maxRecDepth 20000 in
theorem gX0_balance_J9_floorDiv_7cf53 : GoodIn wsX0_balance (va_wsS RX0 45 yJ9_floorDiv_7cf53 wsJ9_floorDiv_7cf53) := goodIn_app (goodIn_of _ (by decide +kernel)) ggX0_balance_J9_floorDiv_7cf53
set_option maxRecDepth 20000 in
theorem ggX1_add_X1_isFull : GoodIn wsX1_add wsX1_isFull := goodIn_r _ [10, 2, 14, 15, 16, 17, 18, 19] (by decide +kernel) (by decide +kernel)
set_option maxRecDepth 20000 in
theorem gX1_add_X1_isFull : GoodIn wsX1_add (wsV RX1 32 RX1 yX1_isFull wsX1_isFull) := goodIn_app (goodIn_of _ (by decide +kernel)) ggX1_add_X1_isFull
set_option maxRecDepth 20000 in
theorem ggX1_add_X7_read : GoodIn wsX1_add wsX7_read := goodIn_r _ [13] (by decide +kernel) (by decide +kernel)
set_option maxRecDepth 20000 in
theorem gX1_add_X7_read_n36 : GoodIn wsX1_add (wsX7_read) := ggX1_add_X7_read
set_option maxRecDepth 20000 in
theorem ggX1_usesOf_X7_read : GoodIn wsX1_usesOf wsX7_read := goodIn_r _ [4] (by decide +kernel) (by decide +kernel)
set_option maxRecDepth 20000 in
theorem gX1_usesOf_X7_read_n36 : GoodIn wsX1_usesOf (wsX7_read) := ggX1_usesOf_X7_read
set_option maxRecDepth 20000 in
theorem ggX1_changeUses_X1_usesOf : GoodIn wsX1_changeUses wsX1_usesOf := goodIn_r _ [6, 1, 7, 8, 9, 12, 13, 14, 15, 16, 17] (by decide +kernel) (by decide +kernel)
set_option maxRecDepth 20000 in
theorem gX1_changeUses_X1_usesOf : GoodIn wsX1_changeUses (wsV RX1 40 RX1 yX1_usesOf wsX1_usesOf) := goodIn_app (goodIn_of _ (by decide +kernel)) ggX1_changeUses_X1_usesOf
set_option maxRecDepth 20000 in
theorem ggX1_changeUses_X7_exchange : GoodIn wsX1_changeUses wsX7_exchange := goodIn_r _ [11] (by decide +kernel) (by decide +kernel)
set_option maxRecDepth 20000 in
theorem gX1_changeUses_X7_exchange_n44 : GoodIn wsX1_changeUses (wsX7_exchange) := ggX1_changeUses_X7_exchange
set_option maxRecDepth 20000 in
theorem ggX1_isRunning_X1_markRunning : GoodIn wsX1_isRunning wsX1_markRunning := goodIn_r _ [6, 7, 1, 8, 9, 10, 11, 12, 5, 13, 14, 15, 16, 17, 18, 19] (by decide +kernel) (by decide +kernel)
set_option maxRecDepth 20000 in
theorem gX1_isRunning_X1_markRunning : GoodIn wsX1_isRunning (wsV RX1 48 RX1 yX1_markRunning wsX1_markRunning) := goodIn_app (goodIn_of _ (by decide +kernel)) ggX1_isRunning_X1_markRunning
set_option maxRecDepth 20000 in
theorem ggX1_isRunning_X1_has : GoodIn wsX1_isRunning wsX1_has := goodIn_r _ [13, 7, 14, 15, 16, 17, 18, 19] (by decide +kernel) (by decide +kernel)
set_option maxRecDepth 20000 in
theorem gX1_isRunning_X1_has : GoodIn wsX1_isRunning (wsV RX1 51 RX1 yX1_has wsX1_has) := goodIn_app (goodIn_of _ (by decide +kernel)) ggX1_isRunning_X1_has
set_option maxRecDepth 20000 in
theorem ggX1_leastDeepest_X1_markRunning : GoodIn wsX1_leastDeepest wsX1_markRunning := goodIn_r _ [12, 1, 2, 13, 14, 15, 16, 17, 11, 18, 19, 20, 21, 22, 23, 24] (by decide +kernel) (by decide +kernel)
set_option maxRecDepth 20000 in
theorem gX1_leastDeepest_X1_markRunning : GoodIn wsX1_leastDeepest (wsV RX1 48 RX1 yX1_markRunning wsX1_markRunning) := goodIn_app (goodIn_of _ (by decide +kernel)) ggX1_leastDeepest_X1_markRunning
set_option maxRecDepth 20000 in
theorem ggX1_markRunning_X1_has : GoodIn wsX1_markRunning wsX1_has := goodIn_r _ [9, 1, 10, 11, 12, 13, 14, 15] (by decide +kernel) (by decide +kernel)
set_option maxRecDepth 20000 in
theorem gX1_markRunning_X1_has : GoodIn wsX1_markRunning (wsV RX1 51 RX1 yX1_has wsX1_has) := goodIn_app (goodIn_of _ (by decide +kernel)) ggX1_markRunning_X1_has
set_option maxRecDepth 20000 in
theorem ggX3_add_X3_isFull : GoodIn wsX3_add wsX3_isFull := goodIn_r _ [9, 1, 10, 11, 12, 13] (by decide +kernel) (by decide +kernel)
set_option maxRecDepth 20000 in
theorem gX3_add_X3_isFull : GoodIn wsX3_add (wsV RX3 25 RX3 yX3_isFull wsX3_isFull) := goodIn_app (goodIn_of _ (by decide +kernel)) ggX3_add_X3_isFull
set_option maxRecDepth 20000 in
theorem ggX4_countTick_X7_read : GoodIn wsX4_countTick wsX7_read := goodIn_r _ [4] (by decide +kernel) (by decide +kernel)
set_option maxRecDepth 20000 in
theorem gX4_countTick_X7_read_n32 : GoodIn wsX4_countTick (wsX7_read) := ggX4_countTick_X7_read
set_option maxRecDepth 20000 in
theorem ggX4_countTick_X7_exchange : GoodIn wsX4_countTick wsX7_exchange := goodIn_r _ [6] (by decide +kernel) (by decide +kernel)
set_option maxRecDepth 20000 in
theorem gX4_countTick_X7_exchange_n36 : GoodIn wsX4_countTick (wsX7_exchange) := ggX4_countTick_X7_exchange
set_option maxRecDepth 20000 in
theorem ggX5_countPlanned_X3_leastLatest : GoodIn wsX5_countPlanned wsX3_leastLatest := goodIn_r _ [5, 6, 7, 8, 9, 10, 11, 12] (by decide +kernel) (by decide +kernel)
set_option maxRecDepth 20000 in
theorem gX5_countPlanned_X3_leastLatest : GoodIn wsX5_countPlanned (wsV RX5 18 RX3 yX3_leastLatest wsX3_leastLatest) := goodIn_app (goodIn_of _ (by decide +kernel)) ggX5_countPlanned_X3_leastLatest
set_option maxRecDepth 20000 in
theorem ggX5_sumPlanned_X5_countPlanned : GoodIn wsX5_sumPlanned wsX5_countPlanned := goodIn_r _ [5, 6, 7, 8, 9, 10, 11, 12, 13, 53, 54, 55, 56] (by decide +kernel) (by decide +kernel)
set_option maxRecDepth 20000 in
theorem gX5_sumPlanned_X5_countPlanned : GoodIn wsX5_sumPlanned (wsV RX5 28 RX5 yX5_countPlanned wsX5_countPlanned) := goodIn_app (goodIn_of _ (by decide +kernel)) ggX5_sumPlanned_X5_countPlanned
set_option maxRecDepth 20000 in
theorem ggX5_sumPlanned_X3_leastLatest : GoodIn wsX5_sumPlanned wsX3_leastLatest := goodIn_r _ [10, 11, 12, 13, 53, 54, 55, 56] (by decide +kernel) (by decide +kernel)
set_option maxRecDepth 20000 in
theorem gX5_sumPlanned_X3_leastLatest : GoodIn wsX5_sumPlanned (wsV RX5 18 RX3 yX3_leastLatest wsX3_leastLatest) := goodIn_app (goodIn_of _ (by decide +kernel)) ggX5_sumPlanned_X3_leastLatest
set_option maxRecDepth 20000 in
theorem ggX5_sumPlanned_X6_plannedIdleCost : GoodIn wsX5_sumPlanned wsX6_plannedIdleCost := goodIn_r _ [18, 19, 20, 21, 17, 22, 23, 24, 25, 26, 27, 28, 29, 30, 31, 32, 33, 34, 35, 36, 37, 38, 39, 40, 41, 42, 43, 44, 45, 46, 47, 48, 49, 50, 51, 52, 57, 58, 59] (by decide +kernel) (by decide +kernel)
set_option maxRecDepth 20000 in
theorem gX5_sumPlanned_X6_plannedIdleCost : GoodIn wsX5_sumPlanned (wsV RX5 32 RX6 yX6_plannedIdleCost wsX6_plannedIdleCost) := goodIn_app (goodIn_of _ (by decide +kernel)) ggX5_sumPlanned_X6_plannedIdleCost
set_option maxRecDepth 20000 in
theorem ggX6_change_X7_exchange : GoodIn wsX6_change wsX7_exchange := goodIn_r _ [6] (by decide +kernel) (by decide +kernel)
set_option maxRecDepth 20000 in
theorem gX6_change_X7_exchange_n21 : GoodIn wsX6_change (wsX7_exchange) := ggX6_change_X7_exchange
set_option maxRecDepth 20000 in
theorem ggX6_powerOf_X7_read : GoodIn wsX6_powerOf wsX7_read := goodIn_r _ [4] (by decide +kernel) (by decide +kernel)
set_option maxRecDepth 20000 in
theorem gX6_powerOf_X7_read_n25 : GoodIn wsX6_powerOf (wsX7_read) := ggX6_powerOf_X7_read
set_option maxRecDepth 20000 in
theorem ggX6_costOf_X7_read : GoodIn wsX6_costOf wsX7_read := goodIn_r _ [4] (by decide +kernel) (by decide +kernel)
set_option maxRecDepth 20000 in
theorem gX6_costOf_X7_read_n25 : GoodIn wsX6_costOf (wsX7_read) := ggX6_costOf_X7_read
set_option maxRecDepth 20000 in
theorem ggX6_latencyOf_X7_read : GoodIn wsX6_latencyOf wsX7_read := goodIn_r _ [4] (by decide +kernel) (by decide +kernel)
set_option maxRecDepth 20000 in
theorem gX6_latencyOf_X7_read_n25 : GoodIn wsX6_latencyOf (wsX7_read) := ggX6_latencyOf_X7_read
set_option maxRecDepth 20000 in
theorem ggX6_wakingCost_X6_powerOf : GoodIn wsX6_wakingCost wsX6_powerOf := goodIn_r _ [5, 6, 7, 8, 9, 15, 16, 17] (by decide +kernel) (by decide +kernel)
set_option maxRecDepth 20000 in
theorem gX6_wakingCost_X6_powerOf : GoodIn wsX6_wakingCost (wsV RX6 29 RX6 yX6_powerOf wsX6_powerOf) := goodIn_app (goodIn_of _ (by decide +kernel)) ggX6_wakingCost_X6_powerOf
set_option maxRecDepth 20000 in
theorem ggX6_wakingCost_X6_latencyOf : GoodIn wsX6_wakingCost wsX6_latencyOf := goodIn_r _ [13, 14, 7, 8, 9, 15, 16, 17] (by decide +kernel) (by decide +kernel)
set_option maxRecDepth 20000 in
theorem gX6_wakingCost_X6_latencyOf : GoodIn wsX6_wakingCost (wsV RX6 33 RX6 yX6_latencyOf wsX6_latencyOf) := goodIn_app (goodIn_of _ (by decide +kernel)) ggX6_wakingCost_X6_latencyOf
set_option maxRecDepth 20000 in
theorem ggX6_idleCost_X6_costOf : GoodIn wsX6_idleCost wsX6_costOf := goodIn_r _ [5, 6, 7, 8, 9, 24, 25, 26] (by decide +kernel) (by decide +kernel)
set_option maxRecDepth 20000 in
theorem gX6_idleCost_X6_costOf : GoodIn wsX6_idleCost (wsV RX6 36 RX6 yX6_costOf wsX6_costOf) := goodIn_app (goodIn_of _ (by decide +kernel)) ggX6_idleCost_X6_costOf
set_option maxRecDepth 20000 in
theorem ggX6_idleCost_X6_powerOf : GoodIn wsX6_idleCost wsX6_powerOf := goodIn_r _ [13, 14, 7, 8, 9, 24, 25, 26] (by decide +kernel) (by decide +kernel)
set_option maxRecDepth 20000 in
theorem gX6_idleCost_X6_powerOf : GoodIn wsX6_idleCost (wsV RX6 29 RX6 yX6_powerOf wsX6_powerOf) := goodIn_app (goodIn_of _ (by decide +kernel)) ggX6_idleCost_X6_powerOf
set_option maxRecDepth 20000 in
theorem ggX6_idleCost_X6_latencyOf : GoodIn wsX6_idleCost wsX6_latencyOf := goodIn_r _ [18, 19, 7, 8, 9, 24, 25, 26] (by decide +kernel) (by decide +kernel)
set_option maxRecDepth 20000 in
theorem gX6_idleCost_X6_latencyOf : GoodIn wsX6_idleCost (wsV RX6 33 RX6 yX6_latencyOf wsX6_latencyOf) := goodIn_app (goodIn_of _ (by decide +kernel)) ggX6_idleCost_X6_latencyOf
set_option maxRecDepth 20000 in
theorem ggX6_idleCost_X6_wakingCost : GoodIn wsX6_idleCost wsX6_wakingCost := goodIn_r _ [23, 10, 11, 12, 4, 13, 14, 7, 8, 9, 15, 16, 17, 18, 19, 24, 25, 26] (by decide +kernel) (by decide +kernel)
set_option maxRecDepth 20000 in
theorem gX6_idleCost_X6_wakingCost : GoodIn wsX6_idleCost (wsV RX6 39 RX6 yX6_wakingCost wsX6_wakingCost) := goodIn_app (goodIn_of _ (by decide +kernel)) ggX6_idleCost_X6_wakingCost
set_option maxRecDepth 20000 in
theorem ggX6_leastWorthwhile_X6_costOf : GoodIn wsX6_leastWorthwhile wsX6_costOf := goodIn_r _ [5, 6, 7, 8, 9, 20, 21, 22] (by decide +kernel) (by decide +kernel)
set_option maxRecDepth 20000 in
theorem gX6_leastWorthwhile_X6_costOf : GoodIn wsX6_leastWorthwhile (wsV RX6 36 RX6 yX6_costOf wsX6_costOf) := goodIn_app (goodIn_of _ (by decide +kernel)) ggX6_leastWorthwhile_X6_costOf
set_option maxRecDepth 20000 in
theorem ggX6_leastWorthwhile_X6_latencyOf : GoodIn wsX6_leastWorthwhile wsX6_latencyOf := goodIn_r _ [13, 14, 7, 8, 9, 20, 21, 22] (by decide +kernel) (by decide +kernel)
set_option maxRecDepth 20000 in
theorem gX6_leastWorthwhile_X6_latencyOf : GoodIn wsX6_leastWorthwhile (wsV RX6 33 RX6 yX6_latencyOf wsX6_latencyOf) := goodIn_app (goodIn_of _ (by decide +kernel)) ggX6_leastWorthwhile_X6_latencyOf
set_option maxRecDepth 20000 in
theorem ggX6_leastWorthwhile_X6_powerOf : GoodIn wsX6_leastWorthwhile wsX6_powerOf := goodIn_r _ [18, 19, 7, 8, 9, 20, 21, 22] (by decide +kernel) (by decide +kernel)
set_option maxRecDepth 20000 in
theorem gX6_leastWorthwhile_X6_powerOf : GoodIn wsX6_leastWorthwhile (wsV RX6 29 RX6 yX6_powerOf wsX6_powerOf) := goodIn_app (goodIn_of _ (by decide +kernel)) ggX6_leastWorthwhile_X6_powerOf
set_option maxRecDepth 20000 in
theorem ggX6_deepestThatWakes_X6_latencyOf : GoodIn wsX6_deepestThatWakes wsX6_latencyOf := goodIn_r _ [5, 6, 7, 8, 9, 10, 11, 12] (by decide +kernel) (by decide +kernel)
set_option maxRecDepth 20000 in
theorem gX6_deepestThatWakes_X6_latencyOf : GoodIn wsX6_deepestThatWakes (wsV RX6 33 RX6 yX6_latencyOf wsX6_latencyOf) := goodIn_app (goodIn_of _ (by decide +kernel)) ggX6_deepestThatWakes_X6_latencyOf
set_option maxRecDepth 20000 in
theorem ggX6_deepestWorthwhile_X6_leastWorthwhile : GoodIn wsX6_deepestWorthwhile wsX6_leastWorthwhile := goodIn_r _ [5, 6, 7, 8, 4, 9, 10, 11, 12, 13, 14, 15, 16, 17, 18, 19, 20, 21, 22, 23, 24, 25, 26] (by decide +kernel) (by decide +kernel)
set_option maxRecDepth 20000 in
theorem gX6_deepestWorthwhile_X6_leastWorthwhile : GoodIn wsX6_deepestWorthwhile (wsV RX6 42 RX6 yX6_leastWorthwhile wsX6_leastWorthwhile) := goodIn_app (goodIn_of _ (by decide +kernel)) ggX6_deepestWorthwhile_X6_leastWorthwhile
set_option maxRecDepth 20000 in
theorem ggX6_plannedIdleCost_X6_deepestWorthwhile : GoodIn wsX6_plannedIdleCost wsX6_deepestWorthwhile := goodIn_r _ [5, 6, 7, 8, 4, 9, 10, 11, 12, 13, 14, 15, 16, 17, 18, 19, 20, 21, 22, 23, 24, 25, 26, 27, 36, 37, 38] (by decide +kernel) (by decide +kernel)
set_option maxRecDepth 20000 in
theorem gX6_plannedIdleCost_X6_deepestWorthwhile : GoodIn wsX6_plannedIdleCost (wsV RX6 45 RX6 yX6_deepestWorthwhile wsX6_deepestWorthwhile) := goodIn_app (goodIn_of _ (by decide +kernel)) ggX6_plannedIdleCost_X6_deepestWorthwhile
set_option maxRecDepth 20000 in
theorem ggX6_plannedIdleCost_X6_idleCost : GoodIn wsX6_plannedIdleCost wsX6_idleCost := goodIn_r _ [31, 10, 11, 12, 4, 13, 14, 15, 16, 17, 23, 24, 25, 26, 27, 18, 19, 20, 21, 22, 32, 33, 34, 35, 36, 37, 38] (by decide +kernel) (by decide +kernel)
set_option maxRecDepth 20000 in
theorem gX6_plannedIdleCost_X6_idleCost : GoodIn wsX6_plannedIdleCost (wsV RX6 49 RX6 yX6_idleCost wsX6_idleCost) := goodIn_app (goodIn_of _ (by decide +kernel)) ggX6_plannedIdleCost_X6_idleCost
set_option maxRecDepth 20000 in
theorem ggX7_init_X6_init : GoodIn wsX7_init wsX6_init := goodIn_r _ [41, 42, 2, 3, 8, 43, 44, 45, 98, 99, 100] (by decide +kernel) (by decide +kernel)
set_option maxRecDepth 20000 in
theorem gX7_init_X6_init : GoodIn wsX7_init (wsX6_init) := ggX7_init_X6_init
set_option maxRecDepth 20000 in
theorem ggX7_init_X1_init : GoodIn wsX7_init wsX1_init := goodIn_r _ [48, 49, 2, 3, 8, 50, 51, 52, 53, 54, 55, 56, 114, 115, 116, 117, 118, 119] (by decide +kernel) (by decide +kernel)
set_option maxRecDepth 20000 in
theorem gX7_init_X1_init : GoodIn wsX7_init (wsX1_init) := ggX7_init_X1_init
set_option maxRecDepth 20000 in
theorem ggX7_init_X3_init : GoodIn wsX7_init wsX3_init := goodIn_r _ [59, 60, 2, 3, 8, 61, 62, 63, 64, 120, 121, 122, 123] (by decide +kernel) (by decide +kernel)
set_option maxRecDepth 20000 in
theorem gX7_init_X3_init : GoodIn wsX7_init (wsX3_init) := ggX7_init_X3_init
set_option maxRecDepth 20000 in
theorem ggX7_init_X2_init : GoodIn wsX7_init wsX2_init := goodIn_r _ [67, 68, 2, 3, 8, 69, 70, 124, 125] (by decide +kernel) (by decide +kernel)
set_option maxRecDepth 20000 in
theorem gX7_init_X2_init : GoodIn wsX7_init (wsX2_init) := ggX7_init_X2_init
set_option maxRecDepth 20000 in
theorem ggX7_init_X4_init : GoodIn wsX7_init wsX4_init := goodIn_r _ [73, 74, 2, 3, 8, 75, 76, 77, 78, 79, 80, 126, 127, 128, 129, 130, 131] (by decide +kernel) (by decide +kernel)
set_option maxRecDepth 20000 in
theorem gX7_init_X4_init : GoodIn wsX7_init (wsX4_init) := ggX7_init_X4_init
set_option maxRecDepth 20000 in
theorem ggX7_init_X0_init : GoodIn wsX7_init wsX0_init := goodIn_r _ [83, 84, 2, 3, 8, 85, 86, 87, 88, 89, 90, 132, 133, 134, 135] (by decide +kernel) (by decide +kernel)
set_option maxRecDepth 20000 in
theorem gX7_init_X0_init : GoodIn wsX7_init (wsX0_init) := ggX7_init_X0_init
set_option maxRecDepth 20000 in
theorem ggX7_init_X5_init : GoodIn wsX7_init wsX5_init := goodIn_r _ [93, 94, 2, 3, 95, 96, 97, 136, 137] (by decide +kernel) (by decide +kernel)
set_option maxRecDepth 20000 in
theorem gX7_init_X5_init : GoodIn wsX7_init (wsX5_init) := ggX7_init_X5_init
set_option maxRecDepth 20000 in
theorem ggX7_setState_X7_isWithin : GoodIn wsX7_setState wsX7_isWithin := goodIn_r _ [7] (by decide +kernel) (by decide +kernel)
set_option maxRecDepth 20000 in
theorem gX7_setState_X7_isWithin : GoodIn wsX7_setState (va_wsS RX7 78 yX7_isWithin wsX7_isWithin) := goodIn_app (goodIn_of _ (by decide +kernel)) ggX7_setState_X7_isWithin
set_option maxRecDepth 20000 in
theorem ggX7_setState_X7_wakeForCall : GoodIn wsX7_setState wsX7_wakeForCall := goodIn_r _ [11, 12, 13, 3, 14, 15, 16, 17, 18, 19, 20, 21, 22, 23, 24, 6, 25, 26, 27, 28, 29, 30, 31, 32, 33, 34, 35, 36, 37, 38, 39, 40, 41, 42, 43, 44, 45, 46, 47, 48, 49, 50, 51, 52, 53, 54, 55, 63, 64, 65, 66, 67, 68, 69, 70, 71, 72, 73, 74, 75, 76, 77, 78, 79, 80, 81, 82, 83, 84, 85, 86] (by decide +kernel) (by decide +kernel)
set_option maxRecDepth 20000 in
theorem gX7_setState_X7_wakeForCall : GoodIn wsX7_setState (wsV RX7 89 RX7 yX7_wakeForCall wsX7_wakeForCall) := goodIn_app (goodIn_of _ (by decide +kernel)) ggX7_setState_X7_wakeForCall
set_option maxRecDepth 20000 in
theorem ggX7_setState_X6_change : GoodIn wsX7_setState wsX6_change := goodIn_r _ [59, 23, 60, 30, 61, 6, 62, 76, 77, 78] (by decide +kernel) (by decide +kernel)
set_option maxRecDepth 20000 in
theorem gX7_setState_X6_change : GoodIn wsX7_setState (wsV RX7 92 RX6 yX6_change wsX6_change) := goodIn_app (goodIn_of _ (by decide +kernel)) ggX7_setState_X6_change
set_option maxRecDepth 20000 in
theorem ggX7_setAwake_X7_isWithin : GoodIn wsX7_setAwake wsX7_isWithin := goodIn_r _ [7] (by decide +kernel) (by decide +kernel)
set_option maxRecDepth 20000 in
theorem gX7_setAwake_X7_isWithin : GoodIn wsX7_setAwake (va_wsS RX7 78 yX7_isWithin wsX7_isWithin) := goodIn_app (goodIn_of _ (by decide +kernel)) ggX7_setAwake_X7_isWithin
set_option maxRecDepth 20000 in
theorem ggX7_setAwake_X7_wakeForCall : GoodIn wsX7_setAwake wsX7_wakeForCall := goodIn_r _ [11, 12, 13, 3, 14, 15, 16, 17, 18, 19, 20, 21, 22, 23, 24, 6, 25, 26, 27, 28, 29, 30, 31, 32, 33, 34, 35, 36, 37, 38, 39, 40, 41, 42, 43, 44, 45, 46, 47, 48, 49, 50, 51, 52, 53, 54, 55, 64, 65, 66, 67, 68, 69, 70, 71, 72, 73, 74, 75, 76, 77, 78, 79, 80, 81, 82, 83, 84, 85, 86, 87] (by decide +kernel) (by decide +kernel)
set_option maxRecDepth 20000 in
theorem gX7_setAwake_X7_wakeForCall : GoodIn wsX7_setAwake (wsV RX7 89 RX7 yX7_wakeForCall wsX7_wakeForCall) := goodIn_app (goodIn_of _ (by decide +kernel)) ggX7_setAwake_X7_wakeForCall
set_option maxRecDepth 20000 in
theorem ggX7_setAwake_X6_powerOf : GoodIn wsX7_setAwake wsX6_powerOf := goodIn_r _ [22, 23, 24, 6, 25, 77, 78, 79] (by decide +kernel) (by decide +kernel)
set_option maxRecDepth 20000 in
theorem gX7_setAwake_X6_powerOf : GoodIn wsX7_setAwake (wsV RX7 98 RX6 yX6_powerOf wsX6_powerOf) := goodIn_app (goodIn_of _ (by decide +kernel)) ggX7_setAwake_X6_powerOf
set_option maxRecDepth 20000 in
theorem ggX7_setAwake_X6_change : GoodIn wsX7_setAwake wsX6_change := goodIn_r _ [60, 23, 61, 30, 62, 6, 63, 77, 78, 79] (by decide +kernel) (by decide +kernel)
set_option maxRecDepth 20000 in
theorem gX7_setAwake_X6_change : GoodIn wsX7_setAwake (wsV RX7 92 RX6 yX6_change wsX6_change) := goodIn_app (goodIn_of _ (by decide +kernel)) ggX7_setAwake_X6_change
set_option maxRecDepth 20000 in
theorem ggX7_vote_X7_isWithin : GoodIn wsX7_vote wsX7_isWithin := goodIn_r _ [7] (by decide +kernel) (by decide +kernel)
set_option maxRecDepth 20000 in
theorem gX7_vote_X7_isWithin : GoodIn wsX7_vote (va_wsS RX7 78 yX7_isWithin wsX7_isWithin) := goodIn_app (goodIn_of _ (by decide +kernel)) ggX7_vote_X7_isWithin
set_option maxRecDepth 20000 in
theorem ggX7_vote_X7_wakeForCall : GoodIn wsX7_vote wsX7_wakeForCall := goodIn_r _ [11, 12, 13, 14, 15, 16, 17, 18, 19, 20, 21, 22, 23, 24, 25, 6, 26, 27, 28, 29, 30, 31, 32, 33, 34, 35, 36, 37, 38, 39, 40, 41, 42, 43, 44, 45, 46, 47, 48, 49, 50, 51, 52, 53, 54, 55, 56, 60, 61, 62, 63, 64, 65, 66, 67, 68, 69, 70, 71, 72, 73, 74, 75, 76, 77, 78, 79, 80, 81, 82, 83] (by decide +kernel) (by decide +kernel)
set_option maxRecDepth 20000 in
theorem gX7_vote_X7_wakeForCall : GoodIn wsX7_vote (wsV RX7 89 RX7 yX7_wakeForCall wsX7_wakeForCall) := goodIn_app (goodIn_of _ (by decide +kernel)) ggX7_vote_X7_wakeForCall
set_option maxRecDepth 20000 in
theorem ggX7_vote_X7_exchange : GoodIn wsX7_vote wsX7_exchange := goodIn_r _ [59] (by decide +kernel) (by decide +kernel)
set_option maxRecDepth 20000 in
theorem gX7_vote_X7_exchange : GoodIn wsX7_vote (va_wsS RX7 104 yX7_exchange wsX7_exchange) := goodIn_app (goodIn_of _ (by decide +kernel)) ggX7_vote_X7_exchange
set_option maxRecDepth 20000 in
theorem ggX7_addClock_X1_has : GoodIn wsX7_addClock wsX1_has := goodIn_r _ [12, 13, 93, 94, 95, 96, 97, 98] (by decide +kernel) (by decide +kernel)
set_option maxRecDepth 20000 in
theorem gX7_addClock_X1_has : GoodIn wsX7_addClock (wsV RX7 108 RX1 yX1_has wsX1_has) := goodIn_app (goodIn_of _ (by decide +kernel)) ggX7_addClock_X1_has
set_option maxRecDepth 20000 in
theorem ggX7_addClock_X7_isWithin : GoodIn wsX7_addClock wsX7_isWithin := goodIn_r _ [17] (by decide +kernel) (by decide +kernel)
set_option maxRecDepth 20000 in
theorem gX7_addClock_X7_isWithin : GoodIn wsX7_addClock (va_wsS RX7 78 yX7_isWithin wsX7_isWithin) := goodIn_app (goodIn_of _ (by decide +kernel)) ggX7_addClock_X7_isWithin
set_option maxRecDepth 20000 in
theorem ggX7_addClock_X1_isFull : GoodIn wsX7_addClock wsX1_isFull := goodIn_r _ [21, 13, 93, 94, 95, 96, 97, 98] (by decide +kernel) (by decide +kernel)
set_option maxRecDepth 20000 in
theorem gX7_addClock_X1_isFull : GoodIn wsX7_addClock (wsV RX7 119 RX1 yX1_isFull wsX1_isFull) := goodIn_app (goodIn_of _ (by decide +kernel)) ggX7_addClock_X1_isFull
set_option maxRecDepth 20000 in
theorem ggX7_addClock_X7_wakeForCall : GoodIn wsX7_addClock wsX7_wakeForCall := goodIn_r _ [25, 26, 27, 28, 29, 30, 31, 32, 33, 34, 35, 36, 37, 38, 39, 16, 40, 41, 42, 43, 44, 45, 46, 47, 48, 49, 50, 51, 52, 53, 54, 55, 56, 57, 58, 59, 60, 61, 62, 63, 64, 65, 66, 67, 68, 69, 70, 80, 81, 82, 83, 84, 85, 86, 87, 88, 89, 90, 91, 92, 99, 100, 101, 102, 103, 104, 105, 106, 107, 108, 109] (by decide +kernel) (by decide +kernel)
set_option maxRecDepth 20000 in
theorem gX7_addClock_X7_wakeForCall : GoodIn wsX7_addClock (wsV RX7 89 RX7 yX7_wakeForCall wsX7_wakeForCall) := goodIn_app (goodIn_of _ (by decide +kernel)) ggX7_addClock_X7_wakeForCall
set_option maxRecDepth 20000 in
theorem ggX7_addClock_X1_add : GoodIn wsX7_addClock wsX1_add := goodIn_r _ [74, 75, 13, 76, 77, 78, 79, 19, 20, 11, 21, 39, 16, 40, 93, 94, 95, 96, 97, 98] (by decide +kernel) (by decide +kernel)
set_option maxRecDepth 20000 in
theorem gX7_addClock_X1_add : GoodIn wsX7_addClock (wsV RX7 128 RX1 yX1_add wsX1_add) := goodIn_app (goodIn_of _ (by decide +kernel)) ggX7_addClock_X1_add
set_option maxRecDepth 20000 in
theorem ggX7_use_X1_has : GoodIn wsX7_use wsX1_has := goodIn_r _ [10, 11, 87, 88, 89, 90, 91, 92] (by decide +kernel) (by decide +kernel)
set_option maxRecDepth 20000 in
theorem gX7_use_X1_has : GoodIn wsX7_use (wsV RX7 108 RX1 yX1_has wsX1_has) := goodIn_app (goodIn_of _ (by decide +kernel)) ggX7_use_X1_has
set_option maxRecDepth 20000 in
theorem ggX7_use_X1_usesOf : GoodIn wsX7_use wsX1_usesOf := goodIn_r _ [15, 16, 17, 18, 19, 87, 88, 89, 90, 91, 92] (by decide +kernel) (by decide +kernel)
set_option maxRecDepth 20000 in
theorem gX7_use_X1_usesOf : GoodIn wsX7_use (wsV RX7 134 RX1 yX1_usesOf wsX1_usesOf) := goodIn_app (goodIn_of _ (by decide +kernel)) ggX7_use_X1_usesOf
set_option maxRecDepth 20000 in
theorem ggX7_use_X7_wakeForCall : GoodIn wsX7_use wsX7_wakeForCall := goodIn_r _ [23, 24, 25, 26, 27, 28, 29, 30, 31, 32, 33, 34, 35, 36, 17, 18, 19, 37, 38, 39, 40, 41, 42, 43, 44, 45, 46, 47, 48, 49, 50, 51, 52, 53, 54, 55, 56, 57, 58, 59, 60, 61, 62, 63, 64, 65, 66, 74, 75, 76, 77, 78, 79, 80, 81, 82, 83, 84, 85, 86, 93, 94, 95, 96, 97, 98, 99, 100, 101, 102, 103] (by decide +kernel) (by decide +kernel)
set_option maxRecDepth 20000 in
theorem gX7_use_X7_wakeForCall : GoodIn wsX7_use (wsV RX7 89 RX7 yX7_wakeForCall wsX7_wakeForCall) := goodIn_app (goodIn_of _ (by decide +kernel)) ggX7_use_X7_wakeForCall
set_option maxRecDepth 20000 in
theorem ggX7_use_X1_changeUses : GoodIn wsX7_use wsX1_changeUses := goodIn_r _ [70, 16, 71, 13, 14, 9, 15, 17, 18, 19, 72, 73, 87, 88, 89, 90, 91, 92] (by decide +kernel) (by decide +kernel)
set_option maxRecDepth 20000 in
theorem gX7_use_X1_changeUses : GoodIn wsX7_use (wsV RX7 139 RX1 yX1_changeUses wsX1_changeUses) := goodIn_app (goodIn_of _ (by decide +kernel)) ggX7_use_X1_changeUses
set_option maxRecDepth 20000 in
theorem ggX7_release_X1_has : GoodIn wsX7_release wsX1_has := goodIn_r _ [10, 11, 87, 88, 89, 90, 91, 92] (by decide +kernel) (by decide +kernel)
set_option maxRecDepth 20000 in
theorem gX7_release_X1_has : GoodIn wsX7_release (wsV RX7 108 RX1 yX1_has wsX1_has) := goodIn_app (goodIn_of _ (by decide +kernel)) ggX7_release_X1_has
set_option maxRecDepth 20000 in
theorem ggX7_release_X1_usesOf : GoodIn wsX7_release wsX1_usesOf := goodIn_r _ [15, 16, 17, 18, 19, 87, 88, 89, 90, 91, 92] (by decide +kernel) (by decide +kernel)
set_option maxRecDepth 20000 in
theorem gX7_release_X1_usesOf : GoodIn wsX7_release (wsV RX7 134 RX1 yX1_usesOf wsX1_usesOf) := goodIn_app (goodIn_of _ (by decide +kernel)) ggX7_release_X1_usesOf
set_option maxRecDepth 20000 in
theorem ggX7_release_X7_wakeForCall : GoodIn wsX7_release wsX7_wakeForCall := goodIn_r _ [23, 24, 25, 26, 27, 28, 29, 30, 31, 32, 33, 34, 35, 36, 17, 18, 19, 37, 38, 39, 40, 41, 42, 43, 44, 45, 46, 47, 48, 49, 50, 51, 52, 53, 54, 55, 56, 57, 58, 59, 60, 61, 62, 63, 64, 65, 66, 74, 75, 76, 77, 78, 79, 80, 81, 82, 83, 84, 85, 86, 93, 94, 95, 96, 97, 98, 99, 100, 101, 102, 103] (by decide +kernel) (by decide +kernel)
set_option maxRecDepth 20000 in
theorem gX7_release_X7_wakeForCall : GoodIn wsX7_release (wsV RX7 89 RX7 yX7_wakeForCall wsX7_wakeForCall) := goodIn_app (goodIn_of _ (by decide +kernel)) ggX7_release_X7_wakeForCall
set_option maxRecDepth 20000 in
theorem ggX7_release_X1_changeUses : GoodIn wsX7_release wsX1_changeUses := goodIn_r _ [70, 16, 71, 13, 14, 9, 15, 17, 18, 19, 72, 73, 87, 88, 89, 90, 91, 92] (by decide +kernel) (by decide +kernel)
set_option maxRecDepth 20000 in
theorem gX7_release_X1_changeUses : GoodIn wsX7_release (wsV RX7 139 RX1 yX1_changeUses wsX1_changeUses) := goodIn_app (goodIn_of _ (by decide +kernel)) ggX7_release_X1_changeUses
set_option maxRecDepth 20000 in
theorem ggX7_runs_X1_has : GoodIn wsX7_runs wsX1_has := goodIn_r _ [8, 9, 35, 36, 37, 38, 39, 40] (by decide +kernel) (by decide +kernel)
set_option maxRecDepth 20000 in
theorem gX7_runs_X1_has : GoodIn wsX7_runs (wsV RX7 108 RX1 yX1_has wsX1_has) := goodIn_app (goodIn_of _ (by decide +kernel)) ggX7_runs_X1_has
set_option maxRecDepth 20000 in
theorem ggX7_runs_X1_isRunning : GoodIn wsX7_runs wsX1_isRunning := goodIn_r _ [13, 14, 15, 16, 17, 7, 18, 9, 19, 20, 21, 5, 6, 8, 35, 36, 37, 38, 39, 40] (by decide +kernel) (by decide +kernel)
set_option maxRecDepth 20000 in
theorem gX7_runs_X1_isRunning : GoodIn wsX7_runs (wsV RX7 145 RX1 yX1_isRunning wsX1_isRunning) := goodIn_app (goodIn_of _ (by decide +kernel)) ggX7_runs_X1_isRunning
set_option maxRecDepth 20000 in
theorem ggX7_depth_X1_leastDeepest : GoodIn wsX7_depth wsX1_leastDeepest := goodIn_r _ [11, 12, 13, 14, 15, 4, 5, 6, 16, 17, 18, 10, 19, 20, 21, 22, 23, 24, 25, 39, 40, 41, 42, 43, 44] (by decide +kernel) (by decide +kernel)
set_option maxRecDepth 20000 in
theorem gX7_depth_X1_leastDeepest : GoodIn wsX7_depth (wsV RX7 151 RX1 yX1_leastDeepest wsX1_leastDeepest) := goodIn_app (goodIn_of _ (by decide +kernel)) ggX7_depth_X1_leastDeepest
set_option maxRecDepth 20000 in
theorem ggX7_breakEven_X7_isWithin : GoodIn wsX7_breakEven wsX7_isWithin := goodIn_r _ [7] (by decide +kernel) (by decide +kernel)
set_option maxRecDepth 20000 in
theorem gX7_breakEven_X7_isWithin : GoodIn wsX7_breakEven (va_wsS RX7 78 yX7_isWithin wsX7_isWithin) := goodIn_app (goodIn_of _ (by decide +kernel)) ggX7_breakEven_X7_isWithin
set_option maxRecDepth 20000 in
theorem ggX7_breakEven_X6_leastWorthwhile : GoodIn wsX7_breakEven wsX6_leastWorthwhile := goodIn_r _ [12, 13, 14, 15, 11, 16, 17, 18, 6, 19, 20, 21, 22, 23, 24, 25, 26, 27, 28, 29, 43, 44, 45] (by decide +kernel) (by decide +kernel)
set_option maxRecDepth 20000 in
theorem gX7_breakEven_X6_leastWorthwhile : GoodIn wsX7_breakEven (wsV RX7 162 RX6 yX6_leastWorthwhile wsX6_leastWorthwhile) := goodIn_app (goodIn_of _ (by decide +kernel)) ggX7_breakEven_X6_leastWorthwhile
set_option maxRecDepth 20000 in
theorem ggX7_schedule_X7_isWithin : GoodIn wsX7_schedule wsX7_isWithin := goodIn_r _ [10] (by decide +kernel) (by decide +kernel)
set_option maxRecDepth 20000 in
theorem gX7_schedule_X7_isWithin : GoodIn wsX7_schedule (va_wsS RX7 78 yX7_isWithin wsX7_isWithin) := goodIn_app (goodIn_of _ (by decide +kernel)) ggX7_schedule_X7_isWithin
set_option maxRecDepth 20000 in
theorem ggX7_schedule_X3_isFull : GoodIn wsX7_schedule wsX3_isFull := goodIn_r _ [15, 16, 86, 87, 88, 89] (by decide +kernel) (by decide +kernel)
set_option maxRecDepth 20000 in
theorem gX7_schedule_X3_isFull : GoodIn wsX7_schedule (wsV RX7 167 RX3 yX3_isFull wsX3_isFull) := goodIn_app (goodIn_of _ (by decide +kernel)) ggX7_schedule_X3_isFull
set_option maxRecDepth 20000 in
theorem ggX7_schedule_X7_wakeForCall : GoodIn wsX7_schedule wsX7_wakeForCall := goodIn_r _ [20, 21, 22, 23, 24, 25, 26, 27, 28, 29, 30, 31, 32, 33, 34, 9, 35, 36, 37, 38, 39, 40, 41, 42, 43, 44, 45, 46, 47, 48, 49, 50, 51, 52, 5, 53, 54, 55, 56, 57, 58, 59, 60, 61, 62, 63, 64, 73, 74, 75, 76, 77, 78, 79, 80, 81, 82, 83, 84, 85, 90, 91, 92, 93, 94, 95, 96, 97, 98, 99, 100] (by decide +kernel) (by decide +kernel)
set_option maxRecDepth 20000 in
theorem gX7_schedule_X7_wakeForCall : GoodIn wsX7_schedule (wsV RX7 89 RX7 yX7_wakeForCall wsX7_wakeForCall) := goodIn_app (goodIn_of _ (by decide +kernel)) ggX7_schedule_X7_wakeForCall
set_option maxRecDepth 20000 in
theorem ggX7_schedule_X3_add : GoodIn wsX7_schedule wsX3_add := goodIn_r _ [68, 16, 69, 70, 71, 72, 12, 13, 14, 15, 86, 87, 88, 89] (by decide +kernel) (by decide +kernel)
set_option maxRecDepth 20000 in
theorem gX7_schedule_X3_add : GoodIn wsX7_schedule (wsV RX7 170 RX3 yX3_add wsX3_add) := goodIn_app (goodIn_of _ (by decide +kernel)) ggX7_schedule_X3_add
set_option maxRecDepth 20000 in
theorem ggX7_addEvent_X7_isWithin : GoodIn wsX7_addEvent wsX7_isWithin := goodIn_r _ [10] (by decide +kernel) (by decide +kernel)
set_option maxRecDepth 20000 in
theorem gX7_addEvent_X7_isWithin : GoodIn wsX7_addEvent (va_wsS RX7 78 yX7_isWithin wsX7_isWithin) := goodIn_app (goodIn_of _ (by decide +kernel)) ggX7_addEvent_X7_isWithin
set_option maxRecDepth 20000 in
theorem ggX7_addEvent_X3_isFull : GoodIn wsX7_addEvent wsX3_isFull := goodIn_r _ [15, 16, 38, 39, 40, 41] (by decide +kernel) (by decide +kernel)
set_option maxRecDepth 20000 in
theorem gX7_addEvent_X3_isFull : GoodIn wsX7_addEvent (wsV RX7 167 RX3 yX3_isFull wsX3_isFull) := goodIn_app (goodIn_of _ (by decide +kernel)) ggX7_addEvent_X3_isFull
set_option maxRecDepth 20000 in
theorem ggX7_addEvent_X3_add : GoodIn wsX7_addEvent wsX3_add := goodIn_r _ [20, 16, 21, 22, 23, 24, 12, 13, 14, 15, 38, 39, 40, 41] (by decide +kernel) (by decide +kernel)
set_option maxRecDepth 20000 in
theorem gX7_addEvent_X3_add : GoodIn wsX7_addEvent (wsV RX7 170 RX3 yX3_add wsX3_add) := goodIn_app (goodIn_of _ (by decide +kernel)) ggX7_addEvent_X3_add
set_option maxRecDepth 20000 in
theorem ggX7_setRule_X7_isWithin : GoodIn wsX7_setRule wsX7_isWithin := goodIn_r _ [7] (by decide +kernel) (by decide +kernel)
set_option maxRecDepth 20000 in
theorem gX7_setRule_X7_isWithin : GoodIn wsX7_setRule (va_wsS RX7 78 yX7_isWithin wsX7_isWithin) := goodIn_app (goodIn_of _ (by decide +kernel)) ggX7_setRule_X7_isWithin
set_option maxRecDepth 20000 in
theorem ggX7_setRule_X7_wakeForCall : GoodIn wsX7_setRule wsX7_wakeForCall := goodIn_r _ [11, 12, 13, 14, 15, 16, 17, 18, 19, 20, 21, 22, 23, 24, 25, 6, 26, 27, 28, 29, 30, 31, 32, 33, 34, 35, 36, 37, 38, 39, 40, 41, 42, 43, 44, 45, 46, 47, 48, 49, 50, 51, 52, 53, 54, 55, 56, 57, 58, 59, 60, 61, 62, 63, 64, 65, 66, 67, 68, 69, 70, 71, 72, 73, 74, 75, 76, 77, 78, 79, 80] (by decide +kernel) (by decide +kernel)
set_option maxRecDepth 20000 in
theorem gX7_setRule_X7_wakeForCall : GoodIn wsX7_setRule (wsV RX7 89 RX7 yX7_wakeForCall wsX7_wakeForCall) := goodIn_app (goodIn_of _ (by decide +kernel)) ggX7_setRule_X7_wakeForCall
set_option maxRecDepth 20000 in
theorem ggX7_nextWakeup_X3_leastLatest : GoodIn wsX7_nextWakeup wsX3_leastLatest := goodIn_r _ [7, 8, 9, 10, 24, 25, 26, 27] (by decide +kernel) (by decide +kernel)
set_option maxRecDepth 20000 in
theorem gX7_nextWakeup_X3_leastLatest : GoodIn wsX7_nextWakeup (wsV RX7 181 RX3 yX3_leastLatest wsX3_leastLatest) := goodIn_app (goodIn_of _ (by decide +kernel)) ggX7_nextWakeup_X3_leastLatest
set_option maxRecDepth 20000 in
theorem ggX7_play_X7_isWithin : GoodIn wsX7_play wsX7_isWithin := goodIn_r _ [7] (by decide +kernel) (by decide +kernel)
set_option maxRecDepth 20000 in
theorem gX7_play_X7_isWithin : GoodIn wsX7_play (va_wsS RX7 78 yX7_isWithin wsX7_isWithin) := goodIn_app (goodIn_of _ (by decide +kernel)) ggX7_play_X7_isWithin
set_option maxRecDepth 20000 in
theorem ggX7_play_X7_playTick : GoodIn wsX7_play wsX7_playTick := goodIn_r _ [11, 12, 13, 14, 3, 15, 16, 17, 6, 18, 19, 20, 21, 22, 23, 24, 25, 26, 27, 28, 29, 30, 31, 32, 33, 34, 35, 36, 37, 38, 39, 40, 41, 42, 43, 44, 45, 46, 47, 48, 49, 50, 51, 52, 53, 54, 55, 56, 57, 58, 59, 60, 61, 62, 63, 64, 65, 66, 67, 68, 69, 70, 71, 72, 73, 74, 75, 76, 77, 78, 79, 80, 81, 82, 83, 84, 85, 86, 87, 88, 89, 90, 91, 92, 93, 94, 95, 96, 97, 98, 99, 100, 101, 102, 103, 104, 105, 106, 107, 108, 109, 110, 111, 112, 113, 114, 115, 116, 117, 118, 119, 120, 121, 122, 123, 124, 125, 126, 127, 128, 129, 130, 131, 132, 133, 134, 135, 136, 137, 138, 139, 140, 141, 142, 143, 144, 145, 146, 147, 148, 149, 150, 151, 152, 153, 154, 155, 156, 157, 158, 159, 160, 161, 162, 163, 164, 165, 166, 167, 168, 169, 170, 171, 172, 173, 174, 175, 176, 177, 178, 179, 180, 181, 182, 183, 184, 185, 186, 187, 188, 189, 190, 191, 192, 193, 194, 195, 196, 197, 198, 199, 200, 201, 202, 203, 204, 205, 206, 207, 208, 209, 210, 211, 212, 213, 214, 215, 216, 217, 218, 219, 220, 221, 222, 223, 224, 225, 226, 227, 228, 229, 230, 231, 232, 233, 234, 235] (by decide +kernel) (by decide +kernel)
set_option maxRecDepth 20000 in
theorem gX7_play_X7_playTick : GoodIn wsX7_play (wsV RX7 186 RX7 yX7_playTick wsX7_playTick) := goodIn_app (goodIn_of _ (by decide +kernel)) ggX7_play_X7_playTick
set_option maxRecDepth 20000 in
theorem ggX7_ticksIn_X7_isWithin : GoodIn wsX7_ticksIn wsX7_isWithin := goodIn_r _ [7] (by decide +kernel) (by decide +kernel)
set_option maxRecDepth 20000 in
theorem gX7_ticksIn_X7_isWithin : GoodIn wsX7_ticksIn (va_wsS RX7 78 yX7_isWithin wsX7_isWithin) := goodIn_app (goodIn_of _ (by decide +kernel)) ggX7_ticksIn_X7_isWithin
set_option maxRecDepth 20000 in
theorem ggX7_ticksIn_X7_read : GoodIn wsX7_ticksIn wsX7_read := goodIn_r _ [10] (by decide +kernel) (by decide +kernel)
set_option maxRecDepth 20000 in
theorem gX7_ticksIn_X7_read : GoodIn wsX7_ticksIn (va_wsS RX7 196 yX7_read wsX7_read) := goodIn_app (goodIn_of _ (by decide +kernel)) ggX7_ticksIn_X7_read
set_option maxRecDepth 20000 in
theorem ggX7_setHarvest_X7_isWithin : GoodIn wsX7_setHarvest wsX7_isWithin := goodIn_r _ [7] (by decide +kernel) (by decide +kernel)
set_option maxRecDepth 20000 in
theorem gX7_setHarvest_X7_isWithin : GoodIn wsX7_setHarvest (va_wsS RX7 78 yX7_isWithin wsX7_isWithin) := goodIn_app (goodIn_of _ (by decide +kernel)) ggX7_setHarvest_X7_isWithin
set_option maxRecDepth 20000 in
theorem ggX7_setHarvest_X7_exchange : GoodIn wsX7_setHarvest wsX7_exchange := goodIn_r _ [10] (by decide +kernel) (by decide +kernel)
set_option maxRecDepth 20000 in
theorem gX7_setHarvest_X7_exchange : GoodIn wsX7_setHarvest (va_wsS RX7 104 yX7_exchange wsX7_exchange) := goodIn_app (goodIn_of _ (by decide +kernel)) ggX7_setHarvest_X7_exchange
set_option maxRecDepth 20000 in
theorem ggX7_plannedCost_X7_isWithin : GoodIn wsX7_plannedCost wsX7_isWithin := goodIn_r _ [10] (by decide +kernel) (by decide +kernel)
set_option maxRecDepth 20000 in
theorem gX7_plannedCost_X7_isWithin : GoodIn wsX7_plannedCost (va_wsS RX7 78 yX7_isWithin wsX7_isWithin) := goodIn_app (goodIn_of _ (by decide +kernel)) ggX7_plannedCost_X7_isWithin
set_option maxRecDepth 20000 in
theorem ggX7_plannedCost_X7_depth : GoodIn wsX7_plannedCost wsX7_depth := goodIn_r _ [14, 15, 16, 17, 18, 19, 20, 21, 22, 23, 24, 25, 26, 27, 28, 29, 30, 31, 32, 33, 34, 35, 36, 37, 38, 39, 95, 96, 97, 98, 99, 100, 101, 102, 103, 104, 105, 106, 107, 108, 109, 110, 111, 112, 113] (by decide +kernel) (by decide +kernel)
set_option maxRecDepth 20000 in
theorem gX7_plannedCost_X7_depth : GoodIn wsX7_plannedCost (wsV RX7 233 RX7 yX7_depth wsX7_depth) := goodIn_app (goodIn_of _ (by decide +kernel)) ggX7_plannedCost_X7_depth
set_option maxRecDepth 20000 in
theorem ggX7_plannedCost_X5_sumPlanned : GoodIn wsX7_plannedCost wsX5_sumPlanned := goodIn_r _ [44, 45, 46, 47, 43, 48, 49, 50, 51, 52, 53, 54, 55, 56, 57, 58, 59, 60, 61, 62, 63, 64, 65, 66, 67, 68, 69, 70, 71, 72, 73, 74, 75, 9, 76, 77, 78, 79, 80, 81, 82, 83, 84, 85, 86, 87, 88, 89, 90, 91, 92, 93, 94, 114, 115, 116, 117, 118, 119, 120] (by decide +kernel) (by decide +kernel)
set_option maxRecDepth 20000 in
theorem gX7_plannedCost_X5_sumPlanned : GoodIn wsX7_plannedCost (wsV RX7 236 RX5 yX5_sumPlanned wsX5_sumPlanned) := goodIn_app (goodIn_of _ (by decide +kernel)) ggX7_plannedCost_X5_sumPlanned
set_option maxRecDepth 20000 in
theorem ggX7_playTick_X7_wakeIfCalledFor : GoodIn wsX7_playTick wsX7_wakeIfCalledFor := goodIn_r _ [9, 10, 4, 2, 11, 1, 12, 13, 14, 8, 15, 16, 17, 18, 19, 20, 21, 22, 23, 24, 25, 26, 27, 28, 29, 30, 31, 32, 33, 34, 35, 36, 37, 38, 39, 40, 41, 42, 43, 44, 45, 46, 47, 48, 49, 50, 51, 52, 53, 54, 55, 56, 57, 58, 59, 60, 61, 62, 63, 64, 65, 66, 67, 68, 69, 70, 71, 72, 73, 74, 75, 189, 190, 191, 192, 193, 194, 195, 196, 197, 198, 199, 200, 201, 202, 203, 204, 205, 206, 207, 208, 209, 210, 211, 212, 213, 214, 215, 216] (by decide +kernel) (by decide +kernel)
set_option maxRecDepth 20000 in
theorem gX7_playTick_X7_wakeIfCalledFor : GoodIn wsX7_playTick (wsV RX7 243 RX7 yX7_wakeIfCalledFor wsX7_wakeIfCalledFor) := goodIn_app (goodIn_of _ (by decide +kernel)) ggX7_playTick_X7_wakeIfCalledFor
set_option maxRecDepth 20000 in
theorem ggX7_playTick_X7_serveWhatIsDue : GoodIn wsX7_playTick wsX7_serveWhatIsDue := goodIn_r _ [79, 10, 4, 21, 2, 11, 80, 81, 82, 25, 83, 27, 28, 84, 29, 85, 40, 41, 37, 42, 43, 44, 8, 45, 51, 52, 53, 54, 55, 56, 57, 189, 190, 191, 192, 193, 194, 195, 196, 197, 198, 199, 200, 201, 202, 203, 204, 205, 206, 207, 208, 209, 210, 211, 212, 213, 214] (by decide +kernel) (by decide +kernel)
set_option maxRecDepth 20000 in
theorem gX7_playTick_X7_serveWhatIsDue : GoodIn wsX7_playTick (wsV RX7 246 RX7 yX7_serveWhatIsDue wsX7_serveWhatIsDue) := goodIn_app (goodIn_of _ (by decide +kernel)) ggX7_playTick_X7_serveWhatIsDue
set_option maxRecDepth 20000 in
theorem ggX7_playTick_X7_chooseState : GoodIn wsX7_playTick wsX7_chooseState := goodIn_r _ [89, 90, 11, 63, 91, 73, 74, 75, 12, 13, 14, 8, 15, 16, 4, 17, 18, 19, 20, 21, 22, 23, 24, 25, 26, 27, 28, 29, 92, 93, 94, 95, 96, 97, 98, 99, 100, 101, 102, 103, 104, 105, 106, 107, 108, 109, 110, 111, 112, 113, 114, 115, 116, 117, 118, 119, 37, 120, 46, 47, 48, 49, 50, 44, 45, 121, 122, 123, 68, 124, 71, 125, 70, 126, 127, 128, 129, 130, 131, 132, 133, 134, 135, 136, 137, 138, 39, 40, 41, 42, 43, 189, 190, 191, 192, 193, 194, 195, 196, 197, 198, 199, 200, 201, 215, 216, 208, 209, 210, 211, 217, 218, 219, 220, 221, 222, 212, 213, 214] (by decide +kernel) (by decide +kernel)
set_option maxRecDepth 20000 in
theorem gX7_playTick_X7_chooseState : GoodIn wsX7_playTick (wsV RX7 249 RX7 yX7_chooseState wsX7_chooseState) := goodIn_app (goodIn_of _ (by decide +kernel)) ggX7_playTick_X7_chooseState
set_option maxRecDepth 20000 in
theorem ggX7_playTick_X7_fallAsleep : GoodIn wsX7_playTick wsX7_fallAsleep := goodIn_r _ [142, 1, 4, 64, 2, 11, 143, 135, 136, 37, 137, 138, 44, 8, 45, 51, 52, 53, 54, 55, 56, 57, 189, 190, 191, 192, 193, 194, 195, 196, 197, 198, 199, 200, 201, 202, 203, 204, 205, 206, 207, 212, 213, 214] (by decide +kernel) (by decide +kernel)
set_option maxRecDepth 20000 in
theorem gX7_playTick_X7_fallAsleep : GoodIn wsX7_playTick (wsV RX7 252 RX7 yX7_fallAsleep wsX7_fallAsleep) := goodIn_app (goodIn_of _ (by decide +kernel)) ggX7_playTick_X7_fallAsleep
set_option maxRecDepth 20000 in
theorem ggX7_playTick_X4_countTick : GoodIn wsX7_playTick wsX4_countTick := goodIn_r _ [147, 148, 44, 8, 45, 149, 150, 202, 203, 204, 205, 206, 207] (by decide +kernel) (by decide +kernel)
set_option maxRecDepth 20000 in
theorem gX7_playTick_X4_countTick : GoodIn wsX7_playTick (wsV RX7 256 RX4 yX4_countTick wsX4_countTick) := goodIn_app (goodIn_of _ (by decide +kernel)) ggX7_playTick_X4_countTick
set_option maxRecDepth 20000 in
theorem ggX7_playTick_X7_powerOfTick : GoodIn wsX7_playTick wsX7_powerOfTick := goodIn_r _ [154, 11, 1, 12, 13, 14, 8, 15, 16, 4, 17, 18, 19, 20, 21, 22, 23, 24, 25, 26, 27, 28, 29, 58, 47, 48, 37, 49, 50, 44, 45, 85, 40, 41, 42, 43, 189, 190, 191, 192, 193, 194, 195, 196, 197, 198, 199, 200, 201, 208, 209, 210, 211, 212, 213, 214] (by decide +kernel) (by decide +kernel)
set_option maxRecDepth 20000 in
theorem gX7_playTick_X7_powerOfTick : GoodIn wsX7_playTick (wsV RX7 259 RX7 yX7_powerOfTick wsX7_powerOfTick) := goodIn_app (goodIn_of _ (by decide +kernel)) ggX7_playTick_X7_powerOfTick
set_option maxRecDepth 20000 in
theorem ggX7_playTick_X4_spend : GoodIn wsX7_playTick wsX4_spend := goodIn_r _ [55, 56, 57, 202, 203, 204, 205, 206, 207] (by decide +kernel) (by decide +kernel)
set_option maxRecDepth 20000 in
theorem gX7_playTick_X4_spend : GoodIn wsX7_playTick (wsV RX7 262 RX4 yX4_spend wsX4_spend) := goodIn_app (goodIn_of _ (by decide +kernel)) ggX7_playTick_X4_spend
set_option maxRecDepth 20000 in
theorem ggX7_playTick_J9_floorMod_7cf53 : GoodIn wsX7_playTick wsJ9_floorMod_7cf53 := goodIn_r _ [158] (by decide +kernel) (by decide +kernel)
set_option maxRecDepth 20000 in
theorem gX7_playTick_J9_floorMod_7cf53 : GoodIn wsX7_playTick (va_wsS RX7 266 yJ9_floorMod_7cf53 wsJ9_floorMod_7cf53) := goodIn_app (goodIn_of _ (by decide +kernel)) ggX7_playTick_J9_floorMod_7cf53
set_option maxRecDepth 20000 in
theorem ggX7_playTick_X4_takeUnpaid : GoodIn wsX7_playTick wsX4_takeUnpaid := goodIn_r _ [162, 57, 202, 203, 204, 205, 206, 207] (by decide +kernel) (by decide +kernel)
set_option maxRecDepth 20000 in
theorem gX7_playTick_X4_takeUnpaid : GoodIn wsX7_playTick (wsV RX7 269 RX4 yX4_takeUnpaid wsX4_takeUnpaid) := goodIn_app (goodIn_of _ (by decide +kernel)) ggX7_playTick_X4_takeUnpaid
set_option maxRecDepth 20000 in
theorem ggX7_playTick_X0_takeTick : GoodIn wsX7_playTick wsX0_takeTick := goodIn_r _ [167, 168, 169, 170, 171, 172, 173, 74, 174, 175, 176, 177, 44, 8, 45, 178, 179, 180, 166, 181, 182, 183, 184, 73, 75, 185, 186, 187, 157, 188, 223, 224, 225, 226] (by decide +kernel) (by decide +kernel)
set_option maxRecDepth 20000 in
theorem gX7_playTick_X0_takeTick : GoodIn wsX7_playTick (wsV RX7 273 RX0 yX0_takeTick wsX0_takeTick) := goodIn_app (goodIn_of _ (by decide +kernel)) ggX7_playTick_X0_takeTick
set_option maxRecDepth 20000 in
theorem ggX7_wakeIfCalledFor_X7_ticksToWakeup : GoodIn wsX7_wakeIfCalledFor wsX7_ticksToWakeup := goodIn_r _ [10, 11, 2, 12, 13, 14, 9, 15, 16, 17, 18, 19, 20, 21, 22, 23, 24, 71, 72, 73, 74, 75, 76, 77, 78, 79, 80, 81, 82, 83, 90, 91, 92, 93] (by decide +kernel) (by decide +kernel)
set_option maxRecDepth 20000 in
theorem gX7_wakeIfCalledFor_X7_ticksToWakeup : GoodIn wsX7_wakeIfCalledFor (wsV RX7 277 RX7 yX7_ticksToWakeup wsX7_ticksToWakeup) := goodIn_app (goodIn_of _ (by decide +kernel)) ggX7_wakeIfCalledFor_X7_ticksToWakeup
set_option maxRecDepth 20000 in
theorem ggX7_wakeIfCalledFor_X3_isAnyDue : GoodIn wsX7_wakeIfCalledFor wsX3_isAnyDue := goodIn_r _ [28, 22, 23, 90, 91, 92, 93] (by decide +kernel) (by decide +kernel)
set_option maxRecDepth 20000 in
theorem gX7_wakeIfCalledFor_X3_isAnyDue : GoodIn wsX7_wakeIfCalledFor (wsV RX7 280 RX3 yX3_isAnyDue wsX3_isAnyDue) := goodIn_app (goodIn_of _ (by decide +kernel)) ggX7_wakeIfCalledFor_X3_isAnyDue
set_option maxRecDepth 20000 in
theorem ggX7_wakeIfCalledFor_X6_wakingCost : GoodIn wsX7_wakeIfCalledFor wsX6_wakingCost := goodIn_r _ [33, 34, 35, 36, 32, 37, 38, 39, 9, 40, 41, 42, 43, 44, 45, 94, 95, 96] (by decide +kernel) (by decide +kernel)
set_option maxRecDepth 20000 in
theorem gX7_wakeIfCalledFor_X6_wakingCost : GoodIn wsX7_wakeIfCalledFor (wsV RX7 283 RX6 yX6_wakingCost wsX6_wakingCost) := goodIn_app (goodIn_of _ (by decide +kernel)) ggX7_wakeIfCalledFor_X6_wakingCost
set_option maxRecDepth 20000 in
theorem ggX7_wakeIfCalledFor_X4_spend : GoodIn wsX7_wakeIfCalledFor wsX4_spend := goodIn_r _ [50, 51, 52, 84, 85, 86, 87, 88, 89] (by decide +kernel) (by decide +kernel)
set_option maxRecDepth 20000 in
theorem gX7_wakeIfCalledFor_X4_spend : GoodIn wsX7_wakeIfCalledFor (wsV RX7 262 RX4 yX4_spend wsX4_spend) := goodIn_app (goodIn_of _ (by decide +kernel)) ggX7_wakeIfCalledFor_X4_spend
set_option maxRecDepth 20000 in
theorem ggX7_wakeIfCalledFor_X6_latencyOf : GoodIn wsX7_wakeIfCalledFor wsX6_latencyOf := goodIn_r _ [44, 45, 39, 9, 40, 94, 95, 96] (by decide +kernel) (by decide +kernel)
set_option maxRecDepth 20000 in
theorem gX7_wakeIfCalledFor_X6_latencyOf : GoodIn wsX7_wakeIfCalledFor (wsV RX7 286 RX6 yX6_latencyOf wsX6_latencyOf) := goodIn_app (goodIn_of _ (by decide +kernel)) ggX7_wakeIfCalledFor_X6_latencyOf
set_option maxRecDepth 20000 in
theorem ggX7_wakeIfCalledFor_X7_endIdleTime : GoodIn wsX7_wakeIfCalledFor wsX7_endIdleTime := goodIn_r _ [57, 58, 2, 59, 5, 60, 61, 62, 63, 64, 65, 66, 67, 68, 69, 70, 71, 72, 73, 74, 75, 76, 77, 78, 79, 80, 81, 82, 83, 97, 98] (by decide +kernel) (by decide +kernel)
set_option maxRecDepth 20000 in
theorem gX7_wakeIfCalledFor_X7_endIdleTime : GoodIn wsX7_wakeIfCalledFor (wsV RX7 289 RX7 yX7_endIdleTime wsX7_endIdleTime) := goodIn_app (goodIn_of _ (by decide +kernel)) ggX7_wakeIfCalledFor_X7_endIdleTime
set_option maxRecDepth 20000 in
theorem ggX7_wakeForCall_X6_wakingCost : GoodIn wsX7_wakeForCall wsX6_wakingCost := goodIn_r _ [8, 9, 10, 11, 7, 12, 13, 14, 15, 16, 17, 18, 19, 20, 21, 60, 61, 62] (by decide +kernel) (by decide +kernel)
set_option maxRecDepth 20000 in
theorem gX7_wakeForCall_X6_wakingCost : GoodIn wsX7_wakeForCall (wsV RX7 283 RX6 yX6_wakingCost wsX6_wakingCost) := goodIn_app (goodIn_of _ (by decide +kernel)) ggX7_wakeForCall_X6_wakingCost
set_option maxRecDepth 20000 in
theorem ggX7_wakeForCall_X4_spend : GoodIn wsX7_wakeForCall wsX4_spend := goodIn_r _ [26, 27, 28, 63, 64, 65, 66, 67, 68] (by decide +kernel) (by decide +kernel)
set_option maxRecDepth 20000 in
theorem gX7_wakeForCall_X4_spend : GoodIn wsX7_wakeForCall (wsV RX7 262 RX4 yX4_spend wsX4_spend) := goodIn_app (goodIn_of _ (by decide +kernel)) ggX7_wakeForCall_X4_spend
set_option maxRecDepth 20000 in
theorem ggX7_wakeForCall_X7_endIdleTime : GoodIn wsX7_wakeForCall wsX7_endIdleTime := goodIn_r _ [32, 33, 34, 35, 1, 36, 37, 38, 39, 40, 41, 42, 43, 44, 45, 46, 47, 48, 49, 50, 51, 52, 53, 54, 55, 56, 57, 58, 59, 69, 70] (by decide +kernel) (by decide +kernel)
set_option maxRecDepth 20000 in
theorem gX7_wakeForCall_X7_endIdleTime : GoodIn wsX7_wakeForCall (wsV RX7 289 RX7 yX7_endIdleTime wsX7_endIdleTime) := goodIn_app (goodIn_of _ (by decide +kernel)) ggX7_wakeForCall_X7_endIdleTime
set_option maxRecDepth 20000 in
theorem ggX7_endIdleTime_X2_remember : GoodIn wsX7_endIdleTime wsX2_remember := goodIn_r _ [9, 10, 11, 12, 13, 14, 15, 29, 30] (by decide +kernel) (by decide +kernel)
set_option maxRecDepth 20000 in
theorem gX7_endIdleTime_X2_remember : GoodIn wsX7_endIdleTime (wsV RX7 292 RX2 yX2_remember wsX2_remember) := goodIn_app (goodIn_of _ (by decide +kernel)) ggX7_endIdleTime_X2_remember
set_option maxRecDepth 20000 in
theorem ggX7_serveWhatIsDue_X3_takeDue : GoodIn wsX7_serveWhatIsDue wsX3_takeDue := goodIn_r _ [10, 11, 12, 13, 14, 50, 51, 52, 53] (by decide +kernel) (by decide +kernel)
set_option maxRecDepth 20000 in
theorem gX7_serveWhatIsDue_X3_takeDue : GoodIn wsX7_serveWhatIsDue (wsV RX7 295 RX3 yX3_takeDue wsX3_takeDue) := goodIn_app (goodIn_of _ (by decide +kernel)) ggX7_serveWhatIsDue_X3_takeDue
set_option maxRecDepth 20000 in
theorem ggX7_serveWhatIsDue_X6_powerOf : GoodIn wsX7_serveWhatIsDue wsX6_powerOf := goodIn_r _ [19, 20, 21, 22, 23, 54, 55, 56] (by decide +kernel) (by decide +kernel)
set_option maxRecDepth 20000 in
theorem gX7_serveWhatIsDue_X6_powerOf : GoodIn wsX7_serveWhatIsDue (wsV RX7 98 RX6 yX6_powerOf wsX6_powerOf) := goodIn_app (goodIn_of _ (by decide +kernel)) ggX7_serveWhatIsDue_X6_powerOf
set_option maxRecDepth 20000 in
theorem ggX7_serveWhatIsDue_X4_spend : GoodIn wsX7_serveWhatIsDue wsX4_spend := goodIn_r _ [28, 29, 30, 44, 45, 46, 47, 48, 49] (by decide +kernel) (by decide +kernel)
set_option maxRecDepth 20000 in
theorem gX7_serveWhatIsDue_X4_spend : GoodIn wsX7_serveWhatIsDue (wsV RX7 262 RX4 yX4_spend wsX4_spend) := goodIn_app (goodIn_of _ (by decide +kernel)) ggX7_serveWhatIsDue_X4_spend
set_option maxRecDepth 20000 in
theorem ggX7_chooseState_X7_ticksToWakeup : GoodIn wsX7_chooseState wsX7_ticksToWakeup := goodIn_r _ [12, 13, 14, 15, 16, 17, 11, 18, 19, 20, 21, 22, 23, 24, 25, 26, 27, 91, 92, 93, 94, 95, 96, 97, 98, 99, 100, 101, 102, 103, 106, 107, 108, 109] (by decide +kernel) (by decide +kernel)
set_option maxRecDepth 20000 in
theorem gX7_chooseState_X7_ticksToWakeup : GoodIn wsX7_chooseState (wsV RX7 277 RX7 yX7_ticksToWakeup wsX7_ticksToWakeup) := goodIn_app (goodIn_of _ (by decide +kernel)) ggX7_chooseState_X7_ticksToWakeup
set_option maxRecDepth 20000 in
theorem ggX7_chooseState_X7_depth : GoodIn wsX7_chooseState wsX7_depth := goodIn_r _ [31, 32, 33, 4, 5, 6, 7, 34, 35, 36, 37, 38, 39, 40, 41, 42, 43, 44, 45, 46, 47, 48, 49, 50, 51, 52, 91, 92, 93, 94, 95, 96, 97, 98, 99, 100, 101, 102, 103, 110, 111, 112, 113, 114, 115] (by decide +kernel) (by decide +kernel)
set_option maxRecDepth 20000 in
theorem gX7_chooseState_X7_depth : GoodIn wsX7_chooseState (wsV RX7 233 RX7 yX7_depth wsX7_depth) := goodIn_app (goodIn_of _ (by decide +kernel)) ggX7_chooseState_X7_depth
set_option maxRecDepth 20000 in
theorem ggX7_chooseState_X6_deepestThatWakes : GoodIn wsX7_chooseState wsX6_deepestThatWakes := goodIn_r _ [57, 58, 59, 60, 56, 61, 62, 63, 11, 64, 116, 117, 118] (by decide +kernel) (by decide +kernel)
set_option maxRecDepth 20000 in
theorem gX7_chooseState_X6_deepestThatWakes : GoodIn wsX7_chooseState (wsV RX7 298 RX6 yX6_deepestThatWakes wsX6_deepestThatWakes) := goodIn_app (goodIn_of _ (by decide +kernel)) ggX7_chooseState_X6_deepestThatWakes
set_option maxRecDepth 20000 in
theorem ggX7_chooseState_X2_mean : GoodIn wsX7_chooseState wsX2_mean := goodIn_r _ [69, 70, 71, 72, 104, 105] (by decide +kernel) (by decide +kernel)
set_option maxRecDepth 20000 in
theorem gX7_chooseState_X2_mean : GoodIn wsX7_chooseState (wsV RX7 302 RX2 yX2_mean wsX2_mean) := goodIn_app (goodIn_of _ (by decide +kernel)) ggX7_chooseState_X2_mean
set_option maxRecDepth 20000 in
theorem ggX7_chooseState_X6_deepestWorthwhile : GoodIn wsX7_chooseState wsX6_deepestWorthwhile := goodIn_r _ [76, 77, 78, 79, 56, 80, 81, 82, 83, 84, 85, 63, 11, 64, 58, 59, 60, 61, 62, 86, 87, 88, 89, 90, 116, 117, 118] (by decide +kernel) (by decide +kernel)
set_option maxRecDepth 20000 in
theorem gX7_chooseState_X6_deepestWorthwhile : GoodIn wsX7_chooseState (wsV RX7 305 RX6 yX6_deepestWorthwhile wsX6_deepestWorthwhile) := goodIn_app (goodIn_of _ (by decide +kernel)) ggX7_chooseState_X6_deepestWorthwhile
set_option maxRecDepth 20000 in
theorem ggX7_fallAsleep_X6_costOf : GoodIn wsX7_fallAsleep wsX6_costOf := goodIn_r _ [10, 11, 12, 13, 14, 41, 42, 43] (by decide +kernel) (by decide +kernel)
set_option maxRecDepth 20000 in
theorem gX7_fallAsleep_X6_costOf : GoodIn wsX7_fallAsleep (wsV RX7 308 RX6 yX6_costOf wsX6_costOf) := goodIn_app (goodIn_of _ (by decide +kernel)) ggX7_fallAsleep_X6_costOf
set_option maxRecDepth 20000 in
theorem ggX7_fallAsleep_X4_spend : GoodIn wsX7_fallAsleep wsX4_spend := goodIn_r _ [19, 20, 21, 35, 36, 37, 38, 39, 40] (by decide +kernel) (by decide +kernel)
set_option maxRecDepth 20000 in
theorem gX7_fallAsleep_X4_spend : GoodIn wsX7_fallAsleep (wsV RX7 262 RX4 yX4_spend wsX4_spend) := goodIn_app (goodIn_of _ (by decide +kernel)) ggX7_fallAsleep_X4_spend
set_option maxRecDepth 20000 in
theorem ggX7_powerOfTick_X7_ticksToWakeup : GoodIn wsX7_powerOfTick wsX7_ticksToWakeup := goodIn_r _ [7, 8, 9, 10, 11, 12, 6, 13, 14, 15, 16, 17, 18, 19, 20, 21, 22, 36, 37, 38, 39, 40, 41, 42, 43, 44, 45, 46, 47, 48, 49, 50, 51, 52] (by decide +kernel) (by decide +kernel)
set_option maxRecDepth 20000 in
theorem gX7_powerOfTick_X7_ticksToWakeup : GoodIn wsX7_powerOfTick (wsV RX7 277 RX7 yX7_ticksToWakeup wsX7_ticksToWakeup) := goodIn_app (goodIn_of _ (by decide +kernel)) ggX7_powerOfTick_X7_ticksToWakeup
set_option maxRecDepth 20000 in
theorem ggX7_powerOfTick_X6_latencyOf : GoodIn wsX7_powerOfTick wsX6_latencyOf := goodIn_r _ [27, 28, 29, 6, 30, 53, 54, 55] (by decide +kernel) (by decide +kernel)
set_option maxRecDepth 20000 in
theorem gX7_powerOfTick_X6_latencyOf : GoodIn wsX7_powerOfTick (wsV RX7 286 RX6 yX6_latencyOf wsX6_latencyOf) := goodIn_app (goodIn_of _ (by decide +kernel)) ggX7_powerOfTick_X6_latencyOf
set_option maxRecDepth 20000 in
theorem ggX7_powerOfTick_X6_powerOf : GoodIn wsX7_powerOfTick wsX6_powerOf := goodIn_r _ [34, 35, 29, 6, 30, 53, 54, 55] (by decide +kernel) (by decide +kernel)
set_option maxRecDepth 20000 in
theorem gX7_powerOfTick_X6_powerOf : GoodIn wsX7_powerOfTick (wsV RX7 98 RX6 yX6_powerOf wsX6_powerOf) := goodIn_app (goodIn_of _ (by decide +kernel)) ggX7_powerOfTick_X6_powerOf
set_option maxRecDepth 20000 in
theorem ggX7_ticksToWakeup_X7_nextWakeup : GoodIn wsX7_ticksToWakeup wsX7_nextWakeup := goodIn_r _ [7, 8, 1, 9, 10, 11, 12, 13, 14, 15, 16, 17, 18, 19, 20, 21, 22, 23, 24, 25, 26, 27, 28, 29, 30, 31, 32, 33] (by decide +kernel) (by decide +kernel)
set_option maxRecDepth 20000 in
theorem gX7_ticksToWakeup_X7_nextWakeup : GoodIn wsX7_ticksToWakeup (wsV RX7 311 RX7 yX7_nextWakeup wsX7_nextWakeup) := goodIn_app (goodIn_of _ (by decide +kernel)) ggX7_ticksToWakeup_X7_nextWakeup
