set_option maxRecDepth 20000 in
theorem ggX10_init_X10_begins : GoodIn wsX10_init wsX10_begins := goodIn_r _ [24, 5, 7, 25, 26, 27, 28, 29, 12, 30, 31, 23, 32, 33, 34, 35, 36, 37, 38, 39, 40, 41, 42, 43, 44, 45, 46, 47, 48, 49, 50, 51, 52, 53, 54, 55, 56, 57, 58, 59, 60] (by decide +kernel) (by decide +kernel)
set_option maxRecDepth 20000 in
theorem gX10_init_X10_begins : GoodIn wsX10_init (wsV RX10 54 RX10 yX10_begins wsX10_begins) := goodIn_app (goodIn_of _ (by decide +kernel)) ggX10_init_X10_begins
set_option maxRecDepth 20000 in
theorem ggX10_begins_X10_copies : GoodIn wsX10_begins wsX10_copies := goodIn_r _ [12] (by decide +kernel) (by decide +kernel)
set_option maxRecDepth 20000 in
theorem gX10_begins_X10_copies : GoodIn wsX10_begins (va_wsS RX10 57 yX10_copies wsX10_copies) := goodIn_app (goodIn_of _ (by decide +kernel)) ggX10_begins_X10_copies
set_option maxRecDepth 20000 in
theorem ggX10_begins_X10_in : GoodIn wsX10_begins wsX10_in := goodIn_r _ [15] (by decide +kernel) (by decide +kernel)
set_option maxRecDepth 20000 in
theorem gX10_begins_X10_in : GoodIn wsX10_begins (va_wsS RX10 65 yX10_in wsX10_in) := goodIn_app (goodIn_of _ (by decide +kernel)) ggX10_begins_X10_in
set_option maxRecDepth 20000 in
theorem ggX10_feed_X10_in : GoodIn wsX10_feed wsX10_in := goodIn_r _ [9] (by decide +kernel) (by decide +kernel)
set_option maxRecDepth 20000 in
theorem gX10_feed_X10_in : GoodIn wsX10_feed (va_wsS RX10 65 yX10_in wsX10_in) := goodIn_app (goodIn_of _ (by decide +kernel)) ggX10_feed_X10_in
set_option maxRecDepth 20000 in
theorem ggX10_step_X10_here : GoodIn wsX10_step wsX10_here := goodIn_r _ [12, 1, 13, 14, 18, 19, 20, 21, 22, 23, 24, 25, 26, 27, 28, 29, 30, 31, 32, 33, 34, 35, 36, 37, 38, 39, 40, 41, 42] (by decide +kernel) (by decide +kernel)
set_option maxRecDepth 20000 in
theorem gX10_step_X10_here : GoodIn wsX10_step (wsV RX10 88 RX10 yX10_here wsX10_here) := goodIn_app (goodIn_of _ (by decide +kernel)) ggX10_step_X10_here
set_option maxRecDepth 20000 in
theorem ggX10_step_X10_in : GoodIn wsX10_step wsX10_in := goodIn_r _ [17] (by decide +kernel) (by decide +kernel)
set_option maxRecDepth 20000 in
theorem gX10_step_X10_in : GoodIn wsX10_step (va_wsS RX10 65 yX10_in wsX10_in) := goodIn_app (goodIn_of _ (by decide +kernel)) ggX10_step_X10_in
set_option maxRecDepth 20000 in
theorem ggX10_number_X10_step : GoodIn wsX10_number wsX10_step := goodIn_r _ [9, 10, 11, 1, 2, 3, 12, 13, 14, 15, 16, 8, 17, 18, 19, 20, 21, 22, 28, 29, 30, 31, 32, 33, 34, 35, 36, 37, 38, 39, 40, 41, 42, 43, 44, 45, 46, 47, 48, 49, 50, 51, 52] (by decide +kernel) (by decide +kernel)
set_option maxRecDepth 20000 in
theorem gX10_number_X10_step : GoodIn wsX10_number (wsV RX10 111 RX10 yX10_step wsX10_step) := goodIn_app (goodIn_of _ (by decide +kernel)) ggX10_number_X10_step
set_option maxRecDepth 20000 in
theorem ggX10_number_X10_fails : GoodIn wsX10_number wsX10_fails := goodIn_r _ [26, 27, 28, 29, 30, 31, 32, 33, 34, 35, 36, 37, 38, 39, 40, 41, 42, 43, 44, 45, 46, 47, 48, 49, 50, 51, 52] (by decide +kernel) (by decide +kernel)
set_option maxRecDepth 20000 in
theorem gX10_number_X10_fails : GoodIn wsX10_number (wsV RX10 114 RX10 yX10_fails wsX10_fails) := goodIn_app (goodIn_of _ (by decide +kernel)) ggX10_number_X10_fails
set_option maxRecDepth 20000 in
theorem ggX10_number_X10_in : GoodIn wsX10_number wsX10_in := goodIn_r _ [22] (by decide +kernel) (by decide +kernel)
set_option maxRecDepth 20000 in
theorem gX10_number_X10_in : GoodIn wsX10_number (va_wsS RX10 65 yX10_in wsX10_in) := goodIn_app (goodIn_of _ (by decide +kernel)) ggX10_number_X10_in
set_option maxRecDepth 20000 in
theorem ggX10_ends_X10_step : GoodIn wsX10_ends wsX10_step := goodIn_r _ [6, 7, 8, 1, 9, 10, 11, 12, 13, 14, 15, 5, 16, 17, 18, 19, 20, 21, 27, 28, 29, 30, 31, 32, 33, 34, 35, 36, 37, 38, 39, 40, 41, 42, 43, 44, 45, 46, 47, 48, 49, 50, 51] (by decide +kernel) (by decide +kernel)
set_option maxRecDepth 20000 in
theorem gX10_ends_X10_step : GoodIn wsX10_ends (wsV RX10 111 RX10 yX10_step wsX10_step) := goodIn_app (goodIn_of _ (by decide +kernel)) ggX10_ends_X10_step
set_option maxRecDepth 20000 in
theorem ggX10_ends_X10_fails : GoodIn wsX10_ends wsX10_fails := goodIn_r _ [25, 26, 27, 28, 29, 30, 31, 32, 33, 34, 35, 36, 37, 38, 39, 40, 41, 42, 43, 44, 45, 46, 47, 48, 49, 50, 51] (by decide +kernel) (by decide +kernel)
set_option maxRecDepth 20000 in
theorem gX10_ends_X10_fails : GoodIn wsX10_ends (wsV RX10 114 RX10 yX10_fails wsX10_fails) := goodIn_app (goodIn_of _ (by decide +kernel)) ggX10_ends_X10_fails
set_option maxRecDepth 20000 in
theorem ggX10_readsInterest_X10_fails : GoodIn wsX10_readsInterest wsX10_fails := goodIn_r _ [6, 7, 36, 37, 38, 39, 40, 41, 42, 43, 44, 45, 46, 47, 48, 49, 50, 51, 52, 53, 54, 55, 56, 57, 58, 59, 60] (by decide +kernel) (by decide +kernel)
set_option maxRecDepth 20000 in
theorem gX10_readsInterest_X10_fails : GoodIn wsX10_readsInterest (wsV RX10 114 RX10 yX10_fails wsX10_fails) := goodIn_app (goodIn_of _ (by decide +kernel)) ggX10_readsInterest_X10_fails
set_option maxRecDepth 20000 in
theorem ggX10_readsInterest_X10_number : GoodIn wsX10_readsInterest wsX10_number := goodIn_r _ [11, 12, 13, 14, 1, 15, 16, 17, 5, 18, 19, 20, 21, 22, 23, 24, 25, 26, 27, 28, 29, 30, 31, 2, 3, 4, 6, 7, 36, 37, 38, 39, 40, 41, 42, 43, 44, 45, 46, 47, 48, 49, 50, 51, 52, 53, 54, 55, 56, 57, 58, 59, 60] (by decide +kernel) (by decide +kernel)
set_option maxRecDepth 20000 in
theorem gX10_readsInterest_X10_number : GoodIn wsX10_readsInterest (wsV RX10 118 RX10 yX10_number wsX10_number) := goodIn_app (goodIn_of _ (by decide +kernel)) ggX10_readsInterest_X10_number
set_option maxRecDepth 20000 in
theorem ggX10_readsInterest_X10_ends : GoodIn wsX10_readsInterest wsX10_ends := goodIn_r _ [35, 12, 15, 16, 17, 5, 18, 19, 20, 13, 14, 21, 22, 23, 24, 25, 26, 27, 28, 29, 30, 31, 2, 3, 4, 6, 7, 36, 37, 38, 39, 40, 41, 42, 43, 44, 45, 46, 47, 48, 49, 50, 51, 52, 53, 54, 55, 56, 57, 58, 59, 60] (by decide +kernel) (by decide +kernel)
set_option maxRecDepth 20000 in
theorem gX10_readsInterest_X10_ends : GoodIn wsX10_readsInterest (wsV RX10 122 RX10 yX10_ends wsX10_ends) := goodIn_app (goodIn_of _ (by decide +kernel)) ggX10_readsInterest_X10_ends
set_option maxRecDepth 20000 in
theorem ggX10_readsCreditor_X10_fails : GoodIn wsX10_readsCreditor wsX10_fails := goodIn_r _ [6, 7, 36, 37, 38, 39, 40, 41, 42, 43, 44, 45, 46, 47, 48, 49, 50, 51, 52, 53, 54, 55, 56, 57, 58, 59, 60] (by decide +kernel) (by decide +kernel)
set_option maxRecDepth 20000 in
theorem gX10_readsCreditor_X10_fails : GoodIn wsX10_readsCreditor (wsV RX10 114 RX10 yX10_fails wsX10_fails) := goodIn_app (goodIn_of _ (by decide +kernel)) ggX10_readsCreditor_X10_fails
set_option maxRecDepth 20000 in
theorem ggX10_readsCreditor_X10_number : GoodIn wsX10_readsCreditor wsX10_number := goodIn_r _ [11, 12, 13, 14, 1, 15, 16, 17, 5, 18, 19, 20, 21, 22, 23, 24, 25, 26, 27, 28, 29, 30, 31, 2, 3, 4, 6, 7, 36, 37, 38, 39, 40, 41, 42, 43, 44, 45, 46, 47, 48, 49, 50, 51, 52, 53, 54, 55, 56, 57, 58, 59, 60] (by decide +kernel) (by decide +kernel)
set_option maxRecDepth 20000 in
theorem gX10_readsCreditor_X10_number : GoodIn wsX10_readsCreditor (wsV RX10 118 RX10 yX10_number wsX10_number) := goodIn_app (goodIn_of _ (by decide +kernel)) ggX10_readsCreditor_X10_number
set_option maxRecDepth 20000 in
theorem ggX10_readsCreditor_X10_ends : GoodIn wsX10_readsCreditor wsX10_ends := goodIn_r _ [35, 12, 15, 16, 17, 5, 18, 19, 20, 13, 14, 21, 22, 23, 24, 25, 26, 27, 28, 29, 30, 31, 2, 3, 4, 6, 7, 36, 37, 38, 39, 40, 41, 42, 43, 44, 45, 46, 47, 48, 49, 50, 51, 52, 53, 54, 55, 56, 57, 58, 59, 60] (by decide +kernel) (by decide +kernel)
set_option maxRecDepth 20000 in
theorem gX10_readsCreditor_X10_ends : GoodIn wsX10_readsCreditor (wsV RX10 122 RX10 yX10_ends wsX10_ends) := goodIn_app (goodIn_of _ (by decide +kernel)) ggX10_readsCreditor_X10_ends
set_option maxRecDepth 20000 in
theorem ggX10_readsPerson_X10_fails : GoodIn wsX10_readsPerson wsX10_fails := goodIn_r _ [7, 8, 32, 33, 34, 35, 36, 37, 38, 39, 40, 41, 42, 43, 44, 45, 46, 47, 48, 49, 50, 51, 52, 53, 54, 55, 56] (by decide +kernel) (by decide +kernel)
set_option maxRecDepth 20000 in
theorem gX10_readsPerson_X10_fails : GoodIn wsX10_readsPerson (wsV RX10 114 RX10 yX10_fails wsX10_fails) := goodIn_app (goodIn_of _ (by decide +kernel)) ggX10_readsPerson_X10_fails
set_option maxRecDepth 20000 in
theorem ggX10_readsPerson_X10_number : GoodIn wsX10_readsPerson wsX10_number := goodIn_r _ [12, 2, 13, 14, 1, 15, 16, 17, 6, 18, 19, 20, 21, 22, 23, 24, 25, 26, 27, 28, 29, 30, 31, 3, 4, 5, 7, 8, 32, 33, 34, 35, 36, 37, 38, 39, 40, 41, 42, 43, 44, 45, 46, 47, 48, 49, 50, 51, 52, 53, 54, 55, 56] (by decide +kernel) (by decide +kernel)
set_option maxRecDepth 20000 in
theorem gX10_readsPerson_X10_number : GoodIn wsX10_readsPerson (wsV RX10 118 RX10 yX10_number wsX10_number) := goodIn_app (goodIn_of _ (by decide +kernel)) ggX10_readsPerson_X10_number
set_option maxRecDepth 20000 in
theorem ggX10_readsPerson_X10_step : GoodIn wsX10_readsPerson wsX10_step := goodIn_r _ [18, 19, 20, 2, 13, 14, 21, 22, 23, 24, 25, 6, 26, 27, 28, 29, 30, 31, 32, 33, 34, 35, 36, 37, 38, 39, 40, 41, 42, 43, 44, 45, 46, 47, 48, 49, 50, 51, 52, 53, 54, 55, 56] (by decide +kernel) (by decide +kernel)
set_option maxRecDepth 20000 in
theorem gX10_readsPerson_X10_step : GoodIn wsX10_readsPerson (wsV RX10 111 RX10 yX10_step wsX10_step) := goodIn_app (goodIn_of _ (by decide +kernel)) ggX10_readsPerson_X10_step
set_option maxRecDepth 20000 in
theorem ggX10_readsClause_X10_readsInterest : GoodIn wsX10_readsClause wsX10_readsInterest := goodIn_r _ [7, 2, 8, 9, 10, 6, 11, 12, 13, 14, 15, 16, 1, 17, 18, 19, 20, 21, 22, 23, 24, 25, 26, 27, 28, 29, 30, 31, 32, 33, 34, 35, 36, 37, 38, 39, 48, 49, 50, 51, 52, 53, 54, 55, 56, 57, 58, 59, 60, 61, 62, 63, 64, 65, 66, 67, 68, 69, 70, 71, 72] (by decide +kernel) (by decide +kernel)
set_option maxRecDepth 20000 in
theorem gX10_readsClause_X10_readsInterest : GoodIn wsX10_readsClause (wsV RX10 126 RX10 yX10_readsInterest wsX10_readsInterest) := goodIn_app (goodIn_of _ (by decide +kernel)) ggX10_readsClause_X10_readsInterest
set_option maxRecDepth 20000 in
theorem ggX10_readsClause_X10_fails : GoodIn wsX10_readsClause wsX10_fails := goodIn_r _ [11, 12, 48, 49, 50, 51, 52, 53, 54, 55, 56, 57, 58, 59, 60, 61, 62, 63, 64, 65, 66, 67, 68, 69, 70, 71, 72] (by decide +kernel) (by decide +kernel)
set_option maxRecDepth 20000 in
theorem gX10_readsClause_X10_fails : GoodIn wsX10_readsClause (wsV RX10 114 RX10 yX10_fails wsX10_fails) := goodIn_app (goodIn_of _ (by decide +kernel)) ggX10_readsClause_X10_fails
set_option maxRecDepth 20000 in
theorem ggX10_readsClause_X10_readsCreditor : GoodIn wsX10_readsClause wsX10_readsCreditor := goodIn_r _ [43, 2, 8, 9, 10, 6, 11, 12, 13, 14, 15, 16, 1, 17, 18, 19, 20, 21, 22, 23, 24, 25, 26, 27, 28, 29, 30, 31, 32, 33, 34, 35, 36, 37, 38, 39, 48, 49, 50, 51, 52, 53, 54, 55, 56, 57, 58, 59, 60, 61, 62, 63, 64, 65, 66, 67, 68, 69, 70, 71, 72] (by decide +kernel) (by decide +kernel)
set_option maxRecDepth 20000 in
theorem gX10_readsClause_X10_readsCreditor : GoodIn wsX10_readsClause (wsV RX10 129 RX10 yX10_readsCreditor wsX10_readsCreditor) := goodIn_app (goodIn_of _ (by decide +kernel)) ggX10_readsClause_X10_readsCreditor
set_option maxRecDepth 20000 in
theorem ggX10_readsClause_X10_readsPerson : GoodIn wsX10_readsClause wsX10_readsPerson := goodIn_r _ [47, 2, 1, 8, 9, 10, 6, 11, 12, 13, 14, 15, 16, 17, 18, 19, 20, 21, 22, 23, 24, 25, 26, 27, 28, 29, 30, 31, 32, 33, 34, 35, 48, 49, 50, 51, 52, 53, 54, 55, 56, 57, 58, 59, 60, 61, 62, 63, 64, 65, 66, 67, 68, 69, 70, 71, 72] (by decide +kernel) (by decide +kernel)
set_option maxRecDepth 20000 in
theorem gX10_readsClause_X10_readsPerson : GoodIn wsX10_readsClause (wsV RX10 132 RX10 yX10_readsPerson wsX10_readsPerson) := goodIn_app (goodIn_of _ (by decide +kernel)) ggX10_readsClause_X10_readsPerson
set_option maxRecDepth 20000 in
theorem ggX10_town_X10_step : GoodIn wsX10_town wsX10_step := goodIn_r _ [13, 2, 6, 4, 14, 15, 16, 17, 18, 19, 20, 12, 21, 5, 22, 23, 24, 25, 68, 69, 70, 71, 72, 73, 74, 75, 76, 77, 78, 79, 80, 81, 82, 83, 84, 85, 86, 87, 88, 89, 90, 91, 92] (by decide +kernel) (by decide +kernel)
set_option maxRecDepth 20000 in
theorem gX10_town_X10_step : GoodIn wsX10_town (wsV RX10 111 RX10 yX10_step wsX10_step) := goodIn_app (goodIn_of _ (by decide +kernel)) ggX10_town_X10_step
set_option maxRecDepth 20000 in
theorem ggX10_town_X10_readsClause : GoodIn wsX10_town wsX10_readsClause := goodIn_r _ [29, 4, 1, 30, 31, 32, 12, 33, 34, 35, 36, 37, 7, 38, 39, 40, 41, 14, 15, 9, 10, 11, 13, 2, 6, 16, 17, 18, 19, 20, 21, 5, 22, 23, 24, 25, 42, 43, 44, 45, 46, 47, 48, 49, 50, 51, 52, 53, 68, 69, 70, 71, 72, 73, 74, 75, 76, 77, 78, 79, 80, 81, 82, 83, 84, 85, 86, 87, 88, 89, 90, 91, 92] (by decide +kernel) (by decide +kernel)
set_option maxRecDepth 20000 in
theorem gX10_town_X10_readsClause : GoodIn wsX10_town (wsV RX10 136 RX10 yX10_readsClause wsX10_readsClause) := goodIn_app (goodIn_of _ (by decide +kernel)) ggX10_town_X10_readsClause
set_option maxRecDepth 20000 in
theorem ggX10_town_X10_copies : GoodIn wsX10_town wsX10_copies := goodIn_r _ [56] (by decide +kernel) (by decide +kernel)
set_option maxRecDepth 20000 in
theorem gX10_town_X10_copies : GoodIn wsX10_town (va_wsS RX10 57 yX10_copies wsX10_copies) := goodIn_app (goodIn_of _ (by decide +kernel)) ggX10_town_X10_copies
set_option maxRecDepth 20000 in
theorem ggX10_town_X10_begins : GoodIn wsX10_town wsX10_begins := goodIn_r _ [60, 8, 61, 62, 63, 64, 65, 66, 67, 54, 55, 12, 56, 23, 24, 25, 68, 69, 70, 71, 72, 73, 74, 75, 76, 77, 78, 79, 80, 81, 82, 83, 84, 85, 86, 87, 88, 89, 90, 91, 92] (by decide +kernel) (by decide +kernel)
set_option maxRecDepth 20000 in
theorem gX10_town_X10_begins : GoodIn wsX10_town (wsV RX10 54 RX10 yX10_begins wsX10_begins) := goodIn_app (goodIn_of _ (by decide +kernel)) ggX10_town_X10_begins
set_option maxRecDepth 20000 in
theorem ggX10_isCreditor_X10_in : GoodIn wsX10_isCreditor wsX10_in := goodIn_r _ [5] (by decide +kernel) (by decide +kernel)
set_option maxRecDepth 20000 in
theorem gX10_isCreditor_X10_in : GoodIn wsX10_isCreditor (va_wsS RX10 65 yX10_in wsX10_in) := goodIn_app (goodIn_of _ (by decide +kernel)) ggX10_isCreditor_X10_in
set_option maxRecDepth 20000 in
theorem ggX10_isPerson_X10_in : GoodIn wsX10_isPerson wsX10_in := goodIn_r _ [5] (by decide +kernel) (by decide +kernel)
set_option maxRecDepth 20000 in
theorem gX10_isPerson_X10_in : GoodIn wsX10_isPerson (va_wsS RX10 65 yX10_in wsX10_in) := goodIn_app (goodIn_of _ (by decide +kernel)) ggX10_isPerson_X10_in
set_option maxRecDepth 20000 in
theorem ggX10_isGirl_X10_isPerson : GoodIn wsX10_isGirl wsX10_isPerson := goodIn_r _ [6, 1, 7, 8, 5, 9, 13, 14, 15, 16, 17, 18, 19, 20, 21, 22, 23, 24, 25, 26, 27, 28, 29, 30, 31, 32, 33, 34, 35, 36, 37] (by decide +kernel) (by decide +kernel)
set_option maxRecDepth 20000 in
theorem gX10_isGirl_X10_isPerson : GoodIn wsX10_isGirl (wsV RX10 139 RX10 yX10_isPerson wsX10_isPerson) := goodIn_app (goodIn_of _ (by decide +kernel)) ggX10_isGirl_X10_isPerson
set_option maxRecDepth 20000 in
theorem ggX10_isGirl_X10_has : GoodIn wsX10_isGirl wsX10_has := goodIn_r _ [12] (by decide +kernel) (by decide +kernel)
set_option maxRecDepth 20000 in
theorem gX10_isGirl_X10_has : GoodIn wsX10_isGirl (va_wsS RX10 142 yX10_has wsX10_has) := goodIn_app (goodIn_of _ (by decide +kernel)) ggX10_isGirl_X10_has
set_option maxRecDepth 20000 in
theorem ggX10_isMan_X10_isPerson : GoodIn wsX10_isMan wsX10_isPerson := goodIn_r _ [6, 1, 7, 8, 5, 9, 13, 14, 15, 16, 17, 18, 19, 20, 21, 22, 23, 24, 25, 26, 27, 28, 29, 30, 31, 32, 33, 34, 35, 36, 37] (by decide +kernel) (by decide +kernel)
set_option maxRecDepth 20000 in
theorem gX10_isMan_X10_isPerson : GoodIn wsX10_isMan (wsV RX10 139 RX10 yX10_isPerson wsX10_isPerson) := goodIn_app (goodIn_of _ (by decide +kernel)) ggX10_isMan_X10_isPerson
set_option maxRecDepth 20000 in
theorem ggX10_isMan_X10_has : GoodIn wsX10_isMan wsX10_has := goodIn_r _ [12] (by decide +kernel) (by decide +kernel)
set_option maxRecDepth 20000 in
theorem gX10_isMan_X10_has : GoodIn wsX10_isMan (va_wsS RX10 142 yX10_has wsX10_has) := goodIn_app (goodIn_of _ (by decide +kernel)) ggX10_isMan_X10_has
set_option maxRecDepth 20000 in
theorem ggX10_temperOf_X10_has : GoodIn wsX10_temperOf wsX10_has := goodIn_r _ [5] (by decide +kernel) (by decide +kernel)
set_option maxRecDepth 20000 in
theorem gX10_temperOf_X10_has : GoodIn wsX10_temperOf (va_wsS RX10 142 yX10_has wsX10_has) := goodIn_app (goodIn_of _ (by decide +kernel)) ggX10_temperOf_X10_has
set_option maxRecDepth 20000 in
theorem ggX10_standing_X10_temperOf : GoodIn wsX10_standing wsX10_temperOf := goodIn_r _ [6, 1, 7, 8, 5, 9, 10, 11, 12, 13, 14, 15, 16, 17, 18, 19, 20, 21, 22, 23, 24, 25, 26, 27, 28, 29, 30, 31, 32, 33, 34] (by decide +kernel) (by decide +kernel)
set_option maxRecDepth 20000 in
theorem gX10_standing_X10_temperOf : GoodIn wsX10_standing (wsV RX10 146 RX10 yX10_temperOf wsX10_temperOf) := goodIn_app (goodIn_of _ (by decide +kernel)) ggX10_standing_X10_temperOf
set_option maxRecDepth 20000 in
theorem ggX10_grows_X10_lesser : GoodIn wsX10_grows wsX10_lesser := goodIn_r _ [5] (by decide +kernel) (by decide +kernel)
set_option maxRecDepth 20000 in
theorem gX10_grows_X10_lesser : GoodIn wsX10_grows (va_wsS RX10 150 yX10_lesser wsX10_lesser) := goodIn_app (goodIn_of _ (by decide +kernel)) ggX10_grows_X10_lesser
set_option maxRecDepth 20000 in
theorem ggX10_sours_X10_temperOf : GoodIn wsX10_sours wsX10_temperOf := goodIn_r _ [6, 1, 7, 8, 5, 9, 10, 11, 12, 13, 14, 15, 16, 17, 18, 19, 20, 21, 22, 23, 24, 25, 26, 27, 28, 29, 30, 31, 32, 33, 34] (by decide +kernel) (by decide +kernel)
set_option maxRecDepth 20000 in
theorem gX10_sours_X10_temperOf : GoodIn wsX10_sours (wsV RX10 146 RX10 yX10_temperOf wsX10_temperOf) := goodIn_app (goodIn_of _ (by decide +kernel)) ggX10_sours_X10_temperOf
set_option maxRecDepth 20000 in
theorem ggX10_sours_X10_has : GoodIn wsX10_sours wsX10_has := goodIn_r _ [9] (by decide +kernel) (by decide +kernel)
set_option maxRecDepth 20000 in
theorem gX10_sours_X10_has : GoodIn wsX10_sours (va_wsS RX10 142 yX10_has wsX10_has) := goodIn_app (goodIn_of _ (by decide +kernel)) ggX10_sours_X10_has
set_option maxRecDepth 20000 in
theorem ggX10_quarterGoes_X10_grows : GoodIn wsX10_quarterGoes wsX10_grows := goodIn_r _ [5, 6, 7, 8, 4, 9, 21, 22, 23, 24, 25, 26, 27, 28, 29, 30, 31, 32, 33, 34, 35, 36, 37, 38, 39, 40, 41, 42, 43, 44, 45] (by decide +kernel) (by decide +kernel)
set_option maxRecDepth 20000 in
theorem gX10_quarterGoes_X10_grows : GoodIn wsX10_quarterGoes (wsV RX10 154 RX10 yX10_grows wsX10_grows) := goodIn_app (goodIn_of _ (by decide +kernel)) ggX10_quarterGoes_X10_grows
set_option maxRecDepth 20000 in
theorem ggX10_quarterGoes_X10_sours : GoodIn wsX10_quarterGoes wsX10_sours := goodIn_r _ [13, 6, 14, 15, 16, 4, 17, 18, 19, 20, 21, 22, 23, 24, 25, 26, 27, 28, 29, 30, 31, 32, 33, 34, 35, 36, 37, 38, 39, 40, 41, 42, 43, 44, 45] (by decide +kernel) (by decide +kernel)
set_option maxRecDepth 20000 in
theorem gX10_quarterGoes_X10_sours : GoodIn wsX10_quarterGoes (wsV RX10 158 RX10 yX10_sours wsX10_sours) := goodIn_app (goodIn_of _ (by decide +kernel)) ggX10_quarterGoes_X10_sours
set_option maxRecDepth 20000 in
theorem ggX10_quarterGoes_X10_has : GoodIn wsX10_quarterGoes wsX10_has := goodIn_r _ [20] (by decide +kernel) (by decide +kernel)
set_option maxRecDepth 20000 in
theorem gX10_quarterGoes_X10_has : GoodIn wsX10_quarterGoes (va_wsS RX10 142 yX10_has wsX10_has) := goodIn_app (goodIn_of _ (by decide +kernel)) ggX10_quarterGoes_X10_has
set_option maxRecDepth 20000 in
theorem ggX10_weds_X10_lesser : GoodIn wsX10_weds wsX10_lesser := goodIn_r _ [4] (by decide +kernel) (by decide +kernel)
set_option maxRecDepth 20000 in
theorem gX10_weds_X10_lesser : GoodIn wsX10_weds (va_wsS RX10 150 yX10_lesser wsX10_lesser) := goodIn_app (goodIn_of _ (by decide +kernel)) ggX10_weds_X10_lesser
set_option maxRecDepth 20000 in
theorem ggX10_owedInAll_X10_sumOf : GoodIn wsX10_owedInAll wsX10_sumOf := goodIn_r _ [6] (by decide +kernel) (by decide +kernel)
set_option maxRecDepth 20000 in
theorem gX10_owedInAll_X10_sumOf : GoodIn wsX10_owedInAll (wsV RX10 162 RX10 yX10_sumOf wsX10_sumOf) := goodIn_app (goodIn_of _ (by decide +kernel)) ggX10_owedInAll_X10_sumOf
set_option maxRecDepth 20000 in
theorem ggX10_told_X10_wedOnes : GoodIn wsX10_told wsX10_wedOnes := goodIn_r _ [12, 3, 21, 22, 23, 24, 25, 26, 27, 28, 29, 30, 31, 32, 33, 34, 35, 36, 37, 38, 39, 40, 41, 42, 43, 44, 45] (by decide +kernel) (by decide +kernel)
set_option maxRecDepth 20000 in
theorem gX10_told_X10_wedOnes : GoodIn wsX10_told (wsV RX10 166 RX10 yX10_wedOnes wsX10_wedOnes) := goodIn_app (goodIn_of _ (by decide +kernel)) ggX10_told_X10_wedOnes
set_option maxRecDepth 20000 in
theorem ggX10_told_X10_owedInAll : GoodIn wsX10_told wsX10_owedInAll := goodIn_r _ [16, 3, 17, 18, 19, 11, 20, 21, 22, 23, 24, 25, 26, 27, 28, 29, 30, 31, 32, 33, 34, 35, 36, 37, 38, 39, 40, 41, 42, 43, 44, 45] (by decide +kernel) (by decide +kernel)
set_option maxRecDepth 20000 in
theorem gX10_told_X10_owedInAll : GoodIn wsX10_told (wsV RX10 169 RX10 yX10_owedInAll wsX10_owedInAll) := goodIn_app (goodIn_of _ (by decide +kernel)) ggX10_told_X10_owedInAll
set_option maxRecDepth 20000 in
theorem ggX10_whoAre_X10_temperOf : GoodIn wsX10_whoAre wsX10_temperOf := goodIn_r _ [7, 1, 8, 9, 6, 10, 11, 12, 13, 14, 15, 16, 17, 18, 19, 20, 21, 22, 23, 24, 25, 26, 27, 28, 29, 30, 31, 32, 33, 34, 35] (by decide +kernel) (by decide +kernel)
set_option maxRecDepth 20000 in
theorem gX10_whoAre_X10_temperOf : GoodIn wsX10_whoAre (wsV RX10 146 RX10 yX10_temperOf wsX10_temperOf) := goodIn_app (goodIn_of _ (by decide +kernel)) ggX10_whoAre_X10_temperOf
set_option maxRecDepth 20000 in
theorem ggX10_creditor_X10_isCreditor : GoodIn wsX10_creditor wsX10_isCreditor := goodIn_r _ [9, 3, 10, 11, 8, 12, 24, 25, 26, 27, 28, 29, 30, 31, 32, 33, 34, 35, 36, 37, 38, 39, 40, 41, 42, 43, 44, 45, 46, 47, 48] (by decide +kernel) (by decide +kernel)
set_option maxRecDepth 20000 in
theorem gX10_creditor_X10_isCreditor : GoodIn wsX10_creditor (wsV RX10 172 RX10 yX10_isCreditor wsX10_isCreditor) := goodIn_app (goodIn_of _ (by decide +kernel)) ggX10_creditor_X10_isCreditor
set_option maxRecDepth 20000 in
theorem ggX10_creditor_X10_whoAre : GoodIn wsX10_creditor wsX10_whoAre := goodIn_r _ [16, 3, 2, 17, 18, 19, 8, 20, 21, 22, 23, 24, 25, 26, 27, 28, 29, 30, 31, 32, 33, 34, 35, 36, 37, 38, 39, 40, 41, 42, 43, 44, 45, 46, 47, 48] (by decide +kernel) (by decide +kernel)
set_option maxRecDepth 20000 in
theorem gX10_creditor_X10_whoAre : GoodIn wsX10_creditor (wsV RX10 176 RX10 yX10_whoAre wsX10_whoAre) := goodIn_app (goodIn_of _ (by decide +kernel)) ggX10_creditor_X10_whoAre
set_option maxRecDepth 20000 in
theorem ggX10_person_X10_isPerson : GoodIn wsX10_person wsX10_isPerson := goodIn_r _ [9, 2, 10, 11, 8, 12, 28, 29, 30, 31, 32, 33, 34, 35, 36, 37, 38, 39, 40, 41, 42, 43, 44, 45, 46, 47, 48, 49, 50, 51, 52] (by decide +kernel) (by decide +kernel)
set_option maxRecDepth 20000 in
theorem gX10_person_X10_isPerson : GoodIn wsX10_person (wsV RX10 139 RX10 yX10_isPerson wsX10_isPerson) := goodIn_app (goodIn_of _ (by decide +kernel)) ggX10_person_X10_isPerson
set_option maxRecDepth 20000 in
theorem ggX10_person_X10_has : GoodIn wsX10_person wsX10_has := goodIn_r _ [15] (by decide +kernel) (by decide +kernel)
set_option maxRecDepth 20000 in
theorem gX10_person_X10_has : GoodIn wsX10_person (va_wsS RX10 142 yX10_has wsX10_has) := goodIn_app (goodIn_of _ (by decide +kernel)) ggX10_person_X10_has
set_option maxRecDepth 20000 in
theorem ggX10_person_X10_sumOf : GoodIn wsX10_person wsX10_sumOf := goodIn_r _ [19] (by decide +kernel) (by decide +kernel)
set_option maxRecDepth 20000 in
theorem gX10_person_X10_sumOf : GoodIn wsX10_person (wsV RX10 162 RX10 yX10_sumOf wsX10_sumOf) := goodIn_app (goodIn_of _ (by decide +kernel)) ggX10_person_X10_sumOf
set_option maxRecDepth 20000 in
theorem ggX10_person_X10_standing : GoodIn wsX10_person wsX10_standing := goodIn_r _ [23, 2, 24, 25, 26, 8, 27, 13, 14, 15, 28, 29, 30, 31, 32, 33, 34, 35, 36, 37, 38, 39, 40, 41, 42, 43, 44, 45, 46, 47, 48, 49, 50, 51, 52] (by decide +kernel) (by decide +kernel)
set_option maxRecDepth 20000 in
theorem gX10_person_X10_standing : GoodIn wsX10_person (wsV RX10 179 RX10 yX10_standing wsX10_standing) := goodIn_app (goodIn_of _ (by decide +kernel)) ggX10_person_X10_standing
set_option maxRecDepth 20000 in
theorem ggX10_owes_X10_isPerson : GoodIn wsX10_owes wsX10_isPerson := goodIn_r _ [7, 8, 9, 10, 6, 11, 16, 17, 18, 19, 20, 21, 22, 23, 24, 25, 26, 27, 28, 29, 30, 31, 32, 33, 34, 35, 36, 37, 38, 39, 40] (by decide +kernel) (by decide +kernel)
set_option maxRecDepth 20000 in
theorem gX10_owes_X10_isPerson : GoodIn wsX10_owes (wsV RX10 139 RX10 yX10_isPerson wsX10_isPerson) := goodIn_app (goodIn_of _ (by decide +kernel)) ggX10_owes_X10_isPerson
set_option maxRecDepth 20000 in
theorem ggX10_owes_X10_isCreditor : GoodIn wsX10_owes wsX10_isCreditor := goodIn_r _ [15, 8, 9, 10, 6, 11, 16, 17, 18, 19, 20, 21, 22, 23, 24, 25, 26, 27, 28, 29, 30, 31, 32, 33, 34, 35, 36, 37, 38, 39, 40] (by decide +kernel) (by decide +kernel)
set_option maxRecDepth 20000 in
theorem gX10_owes_X10_isCreditor : GoodIn wsX10_owes (wsV RX10 172 RX10 yX10_isCreditor wsX10_isCreditor) := goodIn_app (goodIn_of _ (by decide +kernel)) ggX10_owes_X10_isCreditor
set_option maxRecDepth 20000 in
theorem ggX10_temper_X10_isPerson : GoodIn wsX10_temper wsX10_isPerson := goodIn_r _ [7, 8, 9, 10, 6, 11, 23, 24, 25, 26, 27, 28, 29, 30, 31, 32, 33, 34, 35, 36, 37, 38, 39, 40, 41, 42, 43, 44, 45, 46, 47] (by decide +kernel) (by decide +kernel)
set_option maxRecDepth 20000 in
theorem gX10_temper_X10_isPerson : GoodIn wsX10_temper (wsV RX10 139 RX10 yX10_isPerson wsX10_isPerson) := goodIn_app (goodIn_of _ (by decide +kernel)) ggX10_temper_X10_isPerson
set_option maxRecDepth 20000 in
theorem ggX10_temper_X10_isCreditor : GoodIn wsX10_temper wsX10_isCreditor := goodIn_r _ [15, 8, 9, 10, 6, 11, 23, 24, 25, 26, 27, 28, 29, 30, 31, 32, 33, 34, 35, 36, 37, 38, 39, 40, 41, 42, 43, 44, 45, 46, 47] (by decide +kernel) (by decide +kernel)
set_option maxRecDepth 20000 in
theorem gX10_temper_X10_isCreditor : GoodIn wsX10_temper (wsV RX10 172 RX10 yX10_isCreditor wsX10_isCreditor) := goodIn_app (goodIn_of _ (by decide +kernel)) ggX10_temper_X10_isCreditor
set_option maxRecDepth 20000 in
theorem ggX10_temper_X10_temperOf : GoodIn wsX10_temper wsX10_temperOf := goodIn_r _ [19, 8, 20, 21, 6, 22, 23, 24, 25, 26, 27, 28, 29, 30, 31, 32, 33, 34, 35, 36, 37, 38, 39, 40, 41, 42, 43, 44, 45, 46, 47] (by decide +kernel) (by decide +kernel)
set_option maxRecDepth 20000 in
theorem gX10_temper_X10_temperOf : GoodIn wsX10_temper (wsV RX10 146 RX10 yX10_temperOf wsX10_temperOf) := goodIn_app (goodIn_of _ (by decide +kernel)) ggX10_temper_X10_temperOf
set_option maxRecDepth 20000 in
theorem ggX10_remember_X10_copies : GoodIn wsX10_remember wsX10_copies := goodIn_r _ [7] (by decide +kernel) (by decide +kernel)
set_option maxRecDepth 20000 in
theorem gX10_remember_X10_copies : GoodIn wsX10_remember (va_wsS RX10 57 yX10_copies wsX10_copies) := goodIn_app (goodIn_of _ (by decide +kernel)) ggX10_remember_X10_copies
set_option maxRecDepth 20000 in
theorem ggX10_isWedMan_X10_isMan : GoodIn wsX10_isWedMan wsX10_isMan := goodIn_r _ [6, 7, 8, 9, 10, 5, 11, 12, 13, 14, 15, 16, 17, 18, 19, 20, 21, 22, 23, 24, 25, 26, 27, 28, 29, 30, 31, 32, 33, 34, 35, 36, 37, 38, 39, 40, 41, 42] (by decide +kernel) (by decide +kernel)
set_option maxRecDepth 20000 in
theorem gX10_isWedMan_X10_isMan : GoodIn wsX10_isWedMan (wsV RX10 182 RX10 yX10_isMan wsX10_isMan) := goodIn_app (goodIn_of _ (by decide +kernel)) ggX10_isWedMan_X10_isMan
set_option maxRecDepth 20000 in
theorem ggX10_mayBorrow_X10_isWedMan : GoodIn wsX10_mayBorrow wsX10_isWedMan := goodIn_r _ [6, 1, 7, 8, 9, 5, 10, 11, 12, 13, 14, 15, 16, 17, 18, 19, 20, 21, 22, 23, 24, 25, 26, 27, 28, 29, 30, 31, 32, 33, 34, 35, 36, 37, 38, 39, 40, 41, 42, 43, 44, 45, 46] (by decide +kernel) (by decide +kernel)
set_option maxRecDepth 20000 in
theorem gX10_mayBorrow_X10_isWedMan : GoodIn wsX10_mayBorrow (wsV RX10 185 RX10 yX10_isWedMan wsX10_isWedMan) := goodIn_app (goodIn_of _ (by decide +kernel)) ggX10_mayBorrow_X10_isWedMan
set_option maxRecDepth 20000 in
theorem ggX10_mayBorrow_X10_has : GoodIn wsX10_mayBorrow wsX10_has := goodIn_r _ [21] (by decide +kernel) (by decide +kernel)
set_option maxRecDepth 20000 in
theorem gX10_mayBorrow_X10_has : GoodIn wsX10_mayBorrow (va_wsS RX10 142 yX10_has wsX10_has) := goodIn_app (goodIn_of _ (by decide +kernel)) ggX10_mayBorrow_X10_has
set_option maxRecDepth 20000 in
theorem ggX10_borrows_X10_lesser : GoodIn wsX10_borrows wsX10_lesser := goodIn_r _ [5] (by decide +kernel) (by decide +kernel)
set_option maxRecDepth 20000 in
theorem gX10_borrows_X10_lesser : GoodIn wsX10_borrows (va_wsS RX10 150 yX10_lesser wsX10_lesser) := goodIn_app (goodIn_of _ (by decide +kernel)) ggX10_borrows_X10_lesser
set_option maxRecDepth 20000 in
theorem ggX10_borrow_X10_isPerson : GoodIn wsX10_borrow wsX10_isPerson := goodIn_r _ [10, 11, 12, 13, 9, 14, 50, 51, 52, 53, 54, 55, 56, 57, 58, 59, 60, 61, 62, 63, 64, 65, 66, 67, 68, 69, 70, 71, 72, 73, 74] (by decide +kernel) (by decide +kernel)
set_option maxRecDepth 20000 in
theorem gX10_borrow_X10_isPerson : GoodIn wsX10_borrow (wsV RX10 139 RX10 yX10_isPerson wsX10_isPerson) := goodIn_app (goodIn_of _ (by decide +kernel)) ggX10_borrow_X10_isPerson
set_option maxRecDepth 20000 in
theorem ggX10_borrow_X10_isCreditor : GoodIn wsX10_borrow wsX10_isCreditor := goodIn_r _ [18, 11, 12, 13, 9, 14, 50, 51, 52, 53, 54, 55, 56, 57, 58, 59, 60, 61, 62, 63, 64, 65, 66, 67, 68, 69, 70, 71, 72, 73, 74] (by decide +kernel) (by decide +kernel)
set_option maxRecDepth 20000 in
theorem gX10_borrow_X10_isCreditor : GoodIn wsX10_borrow (wsV RX10 172 RX10 yX10_isCreditor wsX10_isCreditor) := goodIn_app (goodIn_of _ (by decide +kernel)) ggX10_borrow_X10_isCreditor
set_option maxRecDepth 20000 in
theorem ggX10_borrow_X10_in : GoodIn wsX10_borrow wsX10_in := goodIn_r _ [14] (by decide +kernel) (by decide +kernel)
set_option maxRecDepth 20000 in
theorem gX10_borrow_X10_in : GoodIn wsX10_borrow (va_wsS RX10 65 yX10_in wsX10_in) := goodIn_app (goodIn_of _ (by decide +kernel)) ggX10_borrow_X10_in
set_option maxRecDepth 20000 in
theorem ggX10_borrow_X10_mayBorrow : GoodIn wsX10_borrow wsX10_mayBorrow := goodIn_r _ [22, 5, 23, 24, 25, 9, 26, 27, 28, 29, 30, 11, 6, 7, 8, 10, 12, 13, 14, 31, 32, 33, 50, 51, 52, 53, 54, 55, 56, 57, 58, 59, 60, 61, 62, 63, 64, 65, 66, 67, 68, 69, 70, 71, 72, 73, 74] (by decide +kernel) (by decide +kernel)
set_option maxRecDepth 20000 in
theorem gX10_borrow_X10_mayBorrow : GoodIn wsX10_borrow (wsV RX10 190 RX10 yX10_mayBorrow wsX10_mayBorrow) := goodIn_app (goodIn_of _ (by decide +kernel)) ggX10_borrow_X10_mayBorrow
set_option maxRecDepth 20000 in
theorem ggX10_borrow_X10_remember : GoodIn wsX10_borrow wsX10_remember := goodIn_r _ [37, 38, 39, 5, 40, 41, 9, 42, 50, 51, 52, 53, 54, 55, 56, 57, 58, 59, 60, 61, 62, 63, 64, 65, 66, 67, 68, 69, 70, 71, 72, 73, 74] (by decide +kernel) (by decide +kernel)
set_option maxRecDepth 20000 in
theorem gX10_borrow_X10_remember : GoodIn wsX10_borrow (wsV RX10 194 RX10 yX10_remember wsX10_remember) := goodIn_app (goodIn_of _ (by decide +kernel)) ggX10_borrow_X10_remember
set_option maxRecDepth 20000 in
theorem ggX10_borrow_X10_borrows : GoodIn wsX10_borrow wsX10_borrows := goodIn_r _ [46, 5, 47, 48, 9, 49, 50, 51, 52, 53, 54, 55, 56, 57, 58, 59, 60, 61, 62, 63, 64, 65, 66, 67, 68, 69, 70, 71, 72, 73, 74] (by decide +kernel) (by decide +kernel)
set_option maxRecDepth 20000 in
theorem gX10_borrow_X10_borrows : GoodIn wsX10_borrow (wsV RX10 197 RX10 yX10_borrows wsX10_borrows) := goodIn_app (goodIn_of _ (by decide +kernel)) ggX10_borrow_X10_borrows
set_option maxRecDepth 20000 in
theorem ggX10_pay_X10_isPerson : GoodIn wsX10_pay wsX10_isPerson := goodIn_r _ [11, 6, 12, 13, 10, 14, 31, 32, 33, 34, 35, 36, 37, 38, 39, 40, 41, 42, 43, 44, 45, 46, 47, 48, 49, 50, 51, 52, 53, 54, 55] (by decide +kernel) (by decide +kernel)
set_option maxRecDepth 20000 in
theorem gX10_pay_X10_isPerson : GoodIn wsX10_pay (wsV RX10 139 RX10 yX10_isPerson wsX10_isPerson) := goodIn_app (goodIn_of _ (by decide +kernel)) ggX10_pay_X10_isPerson
set_option maxRecDepth 20000 in
theorem ggX10_pay_X10_isCreditor : GoodIn wsX10_pay wsX10_isCreditor := goodIn_r _ [18, 6, 12, 13, 10, 14, 31, 32, 33, 34, 35, 36, 37, 38, 39, 40, 41, 42, 43, 44, 45, 46, 47, 48, 49, 50, 51, 52, 53, 54, 55] (by decide +kernel) (by decide +kernel)
set_option maxRecDepth 20000 in
theorem gX10_pay_X10_isCreditor : GoodIn wsX10_pay (wsV RX10 172 RX10 yX10_isCreditor wsX10_isCreditor) := goodIn_app (goodIn_of _ (by decide +kernel)) ggX10_pay_X10_isCreditor
set_option maxRecDepth 20000 in
theorem ggX10_pay_X10_in : GoodIn wsX10_pay wsX10_in := goodIn_r _ [14] (by decide +kernel) (by decide +kernel)
set_option maxRecDepth 20000 in
theorem gX10_pay_X10_in : GoodIn wsX10_pay (va_wsS RX10 65 yX10_in wsX10_in) := goodIn_app (goodIn_of _ (by decide +kernel)) ggX10_pay_X10_in
set_option maxRecDepth 20000 in
theorem ggX10_pay_X10_remember : GoodIn wsX10_pay wsX10_remember := goodIn_r _ [22, 23, 24, 4, 25, 26, 10, 27, 31, 32, 33, 34, 35, 36, 37, 38, 39, 40, 41, 42, 43, 44, 45, 46, 47, 48, 49, 50, 51, 52, 53, 54, 55] (by decide +kernel) (by decide +kernel)
set_option maxRecDepth 20000 in
theorem gX10_pay_X10_remember : GoodIn wsX10_pay (wsV RX10 194 RX10 yX10_remember wsX10_remember) := goodIn_app (goodIn_of _ (by decide +kernel)) ggX10_pay_X10_remember
set_option maxRecDepth 20000 in
theorem ggX10_pay_X10_lesser : GoodIn wsX10_pay wsX10_lesser := goodIn_r _ [30] (by decide +kernel) (by decide +kernel)
set_option maxRecDepth 20000 in
theorem gX10_pay_X10_lesser : GoodIn wsX10_pay (va_wsS RX10 150 yX10_lesser wsX10_lesser) := goodIn_app (goodIn_of _ (by decide +kernel)) ggX10_pay_X10_lesser
set_option maxRecDepth 20000 in
theorem ggX10_refuses_X10_in : GoodIn wsX10_refuses wsX10_in := goodIn_r _ [10] (by decide +kernel) (by decide +kernel)
set_option maxRecDepth 20000 in
theorem gX10_refuses_X10_in : GoodIn wsX10_refuses (va_wsS RX10 65 yX10_in wsX10_in) := goodIn_app (goodIn_of _ (by decide +kernel)) ggX10_refuses_X10_in
set_option maxRecDepth 20000 in
theorem ggX10_quarter_X10_refuses : GoodIn wsX10_quarter wsX10_refuses := goodIn_r _ [6, 7, 8, 9, 10, 1, 11, 12, 13, 5, 14, 49, 50, 51, 52, 53, 54, 55, 56, 57, 58, 59, 60, 61, 62, 63, 64, 65, 66, 67, 68, 69, 70, 71, 72, 73] (by decide +kernel) (by decide +kernel)
set_option maxRecDepth 20000 in
theorem gX10_quarter_X10_refuses : GoodIn wsX10_quarter (wsV RX10 205 RX10 yX10_refuses wsX10_refuses) := goodIn_app (goodIn_of _ (by decide +kernel)) ggX10_quarter_X10_refuses
set_option maxRecDepth 20000 in
theorem ggX10_quarter_X10_remember : GoodIn wsX10_quarter wsX10_remember := goodIn_r _ [18, 19, 20, 1, 21, 22, 5, 23, 49, 50, 51, 52, 53, 54, 55, 56, 57, 58, 59, 60, 61, 62, 63, 64, 65, 66, 67, 68, 69, 70, 71, 72, 73] (by decide +kernel) (by decide +kernel)
set_option maxRecDepth 20000 in
theorem gX10_quarter_X10_remember : GoodIn wsX10_quarter (wsV RX10 194 RX10 yX10_remember wsX10_remember) := goodIn_app (goodIn_of _ (by decide +kernel)) ggX10_quarter_X10_remember
set_option maxRecDepth 20000 in
theorem ggX10_quarter_X10_quarterGoes : GoodIn wsX10_quarter wsX10_quarterGoes := goodIn_r _ [27, 28, 29, 30, 5, 31, 9, 32, 33, 34, 35, 36, 37, 38, 39, 40, 41, 42, 43, 44, 45, 49, 50, 51, 52, 53, 54, 55, 56, 57, 58, 59, 60, 61, 62, 63, 64, 65, 66, 67, 68, 69, 70, 71, 72, 73] (by decide +kernel) (by decide +kernel)
set_option maxRecDepth 20000 in
theorem gX10_quarter_X10_quarterGoes : GoodIn wsX10_quarter (wsV RX10 208 RX10 yX10_quarterGoes wsX10_quarterGoes) := goodIn_app (goodIn_of _ (by decide +kernel)) ggX10_quarter_X10_quarterGoes
set_option maxRecDepth 20000 in
theorem ggX10_quarter_X10_bits : GoodIn wsX10_quarter wsX10_bits := goodIn_r _ [48] (by decide +kernel) (by decide +kernel)
set_option maxRecDepth 20000 in
theorem gX10_quarter_X10_bits : GoodIn wsX10_quarter (va_wsS RX10 212 yX10_bits wsX10_bits) := goodIn_app (goodIn_of _ (by decide +kernel)) ggX10_quarter_X10_bits
set_option maxRecDepth 20000 in
theorem ggX10_wed_X10_isGirl : GoodIn wsX10_wed wsX10_isGirl := goodIn_r _ [8, 9, 10, 11, 12, 7, 13, 14, 15, 16, 17, 18, 19, 52, 53, 54, 55, 56, 57, 58, 59, 60, 61, 62, 63, 64, 65, 66, 67, 68, 69, 70, 71, 72, 73, 74, 75, 76] (by decide +kernel) (by decide +kernel)
set_option maxRecDepth 20000 in
theorem gX10_wed_X10_isGirl : GoodIn wsX10_wed (wsV RX10 215 RX10 yX10_isGirl wsX10_isGirl) := goodIn_app (goodIn_of _ (by decide +kernel)) ggX10_wed_X10_isGirl
set_option maxRecDepth 20000 in
theorem ggX10_wed_X10_isMan : GoodIn wsX10_wed wsX10_isMan := goodIn_r _ [23, 9, 10, 11, 12, 7, 13, 14, 15, 16, 17, 18, 19, 52, 53, 54, 55, 56, 57, 58, 59, 60, 61, 62, 63, 64, 65, 66, 67, 68, 69, 70, 71, 72, 73, 74, 75, 76] (by decide +kernel) (by decide +kernel)
set_option maxRecDepth 20000 in
theorem gX10_wed_X10_isMan : GoodIn wsX10_wed (wsV RX10 182 RX10 yX10_isMan wsX10_isMan) := goodIn_app (goodIn_of _ (by decide +kernel)) ggX10_wed_X10_isMan
set_option maxRecDepth 20000 in
theorem ggX10_wed_X10_areApart : GoodIn wsX10_wed wsX10_areApart := goodIn_r _ [27, 3, 52, 53, 54, 55, 56, 57, 58, 59, 60, 61, 62, 63, 64, 65, 66, 67, 68, 69, 70, 71, 72, 73, 74, 75, 76] (by decide +kernel) (by decide +kernel)
set_option maxRecDepth 20000 in
theorem gX10_wed_X10_areApart : GoodIn wsX10_wed (wsV RX10 218 RX10 yX10_areApart wsX10_areApart) := goodIn_app (goodIn_of _ (by decide +kernel)) ggX10_wed_X10_areApart
set_option maxRecDepth 20000 in
theorem ggX10_wed_X10_remember : GoodIn wsX10_wed wsX10_remember := goodIn_r _ [31, 32, 33, 3, 34, 35, 7, 36, 52, 53, 54, 55, 56, 57, 58, 59, 60, 61, 62, 63, 64, 65, 66, 67, 68, 69, 70, 71, 72, 73, 74, 75, 76] (by decide +kernel) (by decide +kernel)
set_option maxRecDepth 20000 in
theorem gX10_wed_X10_remember : GoodIn wsX10_wed (wsV RX10 194 RX10 yX10_remember wsX10_remember) := goodIn_app (goodIn_of _ (by decide +kernel)) ggX10_wed_X10_remember
set_option maxRecDepth 20000 in
theorem ggX10_wed_X10_weds : GoodIn wsX10_wed wsX10_weds := goodIn_r _ [40, 41, 42, 7, 43] (by decide +kernel) (by decide +kernel)
set_option maxRecDepth 20000 in
theorem gX10_wed_X10_weds : GoodIn wsX10_wed (wsV RX10 221 RX10 yX10_weds wsX10_weds) := goodIn_app (goodIn_of _ (by decide +kernel)) ggX10_wed_X10_weds
set_option maxRecDepth 20000 in
theorem ggX10_wed_X10_standing : GoodIn wsX10_wed wsX10_standing := goodIn_r _ [47, 9, 48, 49, 50, 7, 51, 17, 18, 19, 52, 53, 54, 55, 56, 57, 58, 59, 60, 61, 62, 63, 64, 65, 66, 67, 68, 69, 70, 71, 72, 73, 74, 75, 76] (by decide +kernel) (by decide +kernel)
set_option maxRecDepth 20000 in
theorem gX10_wed_X10_standing : GoodIn wsX10_wed (wsV RX10 179 RX10 yX10_standing wsX10_standing) := goodIn_app (goodIn_of _ (by decide +kernel)) ggX10_wed_X10_standing
set_option maxRecDepth 20000 in
theorem ggX10_divorce_X10_isGirl : GoodIn wsX10_divorce wsX10_isGirl := goodIn_r _ [8, 9, 10, 11, 12, 7, 13, 14, 15, 16, 17, 18, 19, 33, 34, 35, 36, 37, 38, 39, 40, 41, 42, 43, 44, 45, 46, 47, 48, 49, 50, 51, 52, 53, 54, 55, 56, 57] (by decide +kernel) (by decide +kernel)
set_option maxRecDepth 20000 in
theorem gX10_divorce_X10_isGirl : GoodIn wsX10_divorce (wsV RX10 215 RX10 yX10_isGirl wsX10_isGirl) := goodIn_app (goodIn_of _ (by decide +kernel)) ggX10_divorce_X10_isGirl
set_option maxRecDepth 20000 in
theorem ggX10_divorce_X10_remember : GoodIn wsX10_divorce wsX10_remember := goodIn_r _ [23, 24, 25, 2, 26, 27, 7, 28, 33, 34, 35, 36, 37, 38, 39, 40, 41, 42, 43, 44, 45, 46, 47, 48, 49, 50, 51, 52, 53, 54, 55, 56, 57] (by decide +kernel) (by decide +kernel)
set_option maxRecDepth 20000 in
theorem gX10_divorce_X10_remember : GoodIn wsX10_divorce (wsV RX10 194 RX10 yX10_remember wsX10_remember) := goodIn_app (goodIn_of _ (by decide +kernel)) ggX10_divorce_X10_remember
set_option maxRecDepth 20000 in
theorem ggX10_divorce_X10_sumOf : GoodIn wsX10_divorce wsX10_sumOf := goodIn_r _ [32] (by decide +kernel) (by decide +kernel)
set_option maxRecDepth 20000 in
theorem gX10_divorce_X10_sumOf : GoodIn wsX10_divorce (wsV RX10 162 RX10 yX10_sumOf wsX10_sumOf) := goodIn_app (goodIn_of _ (by decide +kernel)) ggX10_divorce_X10_sumOf
set_option maxRecDepth 20000 in
theorem ggX10_drift_X10_refuses : GoodIn wsX10_drift wsX10_refuses := goodIn_r _ [7, 8, 9, 1, 10, 2, 11, 12, 13, 6, 14, 83, 84, 85, 86, 87, 88, 89, 90, 91, 92, 93, 94, 95, 96, 97, 98, 99, 100, 101, 102, 103, 104, 105, 106, 107] (by decide +kernel) (by decide +kernel)
set_option maxRecDepth 20000 in
theorem gX10_drift_X10_refuses : GoodIn wsX10_drift (wsV RX10 205 RX10 yX10_refuses wsX10_refuses) := goodIn_app (goodIn_of _ (by decide +kernel)) ggX10_drift_X10_refuses
set_option maxRecDepth 20000 in
theorem ggX10_drift_X10_remember : GoodIn wsX10_drift wsX10_remember := goodIn_r _ [18, 19, 20, 2, 21, 22, 6, 23, 83, 84, 85, 86, 87, 88, 89, 90, 91, 92, 93, 94, 95, 96, 97, 98, 99, 100, 101, 102, 103, 104, 105, 106, 107] (by decide +kernel) (by decide +kernel)
set_option maxRecDepth 20000 in
theorem gX10_drift_X10_remember : GoodIn wsX10_drift (wsV RX10 194 RX10 yX10_remember wsX10_remember) := goodIn_app (goodIn_of _ (by decide +kernel)) ggX10_drift_X10_remember
set_option maxRecDepth 20000 in
theorem ggX10_drift_X10_draw : GoodIn wsX10_drift wsX10_draw := goodIn_r _ [27, 28, 29, 30, 31, 32, 83, 84, 85, 86, 87, 88, 89, 90, 91, 92, 93, 94, 95, 96, 97, 98, 99, 100, 101, 102, 103, 104, 105, 106, 107] (by decide +kernel) (by decide +kernel)
set_option maxRecDepth 20000 in
theorem gX10_drift_X10_draw : GoodIn wsX10_drift (wsV RX10 237 RX10 yX10_draw wsX10_draw) := goodIn_app (goodIn_of _ (by decide +kernel)) ggX10_drift_X10_draw
set_option maxRecDepth 20000 in
theorem ggX10_drift_X10_mayBorrow : GoodIn wsX10_drift wsX10_mayBorrow := goodIn_r _ [36, 2, 37, 38, 39, 6, 40, 41, 42, 43, 44, 1, 45, 46, 47, 48, 12, 13, 14, 49, 50, 51, 83, 84, 85, 86, 87, 88, 89, 90, 91, 92, 93, 94, 95, 96, 97, 98, 99, 100, 101, 102, 103, 104, 105, 106, 107] (by decide +kernel) (by decide +kernel)
set_option maxRecDepth 20000 in
theorem gX10_drift_X10_mayBorrow : GoodIn wsX10_drift (wsV RX10 190 RX10 yX10_mayBorrow wsX10_mayBorrow) := goodIn_app (goodIn_of _ (by decide +kernel)) ggX10_drift_X10_mayBorrow
set_option maxRecDepth 20000 in
theorem ggX10_drift_X10_borrows : GoodIn wsX10_drift wsX10_borrows := goodIn_r _ [55, 2, 56, 57, 6, 58, 83, 84, 85, 86, 87, 88, 89, 90, 91, 92, 93, 94, 95, 96, 97, 98, 99, 100, 101, 102, 103, 104, 105, 106, 107] (by decide +kernel) (by decide +kernel)
set_option maxRecDepth 20000 in
theorem gX10_drift_X10_borrows : GoodIn wsX10_drift (wsV RX10 197 RX10 yX10_borrows wsX10_borrows) := goodIn_app (goodIn_of _ (by decide +kernel)) ggX10_drift_X10_borrows
set_option maxRecDepth 20000 in
theorem ggX10_drift_X10_quarterGoes : GoodIn wsX10_drift wsX10_quarterGoes := goodIn_r _ [62, 63, 64, 65, 6, 66, 1, 56, 57, 58, 67, 68, 69, 70, 71, 72, 73, 74, 49, 50, 51, 83, 84, 85, 86, 87, 88, 89, 90, 91, 92, 93, 94, 95, 96, 97, 98, 99, 100, 101, 102, 103, 104, 105, 106, 107] (by decide +kernel) (by decide +kernel)
set_option maxRecDepth 20000 in
theorem gX10_drift_X10_quarterGoes : GoodIn wsX10_drift (wsV RX10 208 RX10 yX10_quarterGoes wsX10_quarterGoes) := goodIn_app (goodIn_of _ (by decide +kernel)) ggX10_drift_X10_quarterGoes
set_option maxRecDepth 20000 in
theorem ggX10_drift_X10_owedInAll : GoodIn wsX10_drift wsX10_owedInAll := goodIn_r _ [78, 2, 79, 80, 81, 6, 82, 83, 84, 85, 86, 87, 88, 89, 90, 91, 92, 93, 94, 95, 96, 97, 98, 99, 100, 101, 102, 103, 104, 105, 106, 107] (by decide +kernel) (by decide +kernel)
set_option maxRecDepth 20000 in
theorem gX10_drift_X10_owedInAll : GoodIn wsX10_drift (wsV RX10 169 RX10 yX10_owedInAll wsX10_owedInAll) := goodIn_app (goodIn_of _ (by decide +kernel)) ggX10_drift_X10_owedInAll
set_option maxRecDepth 20000 in
theorem ggX10_undo_X10_in : GoodIn wsX10_undo wsX10_in := goodIn_r _ [10] (by decide +kernel) (by decide +kernel)
set_option maxRecDepth 20000 in
theorem gX10_undo_X10_in : GoodIn wsX10_undo (va_wsS RX10 65 yX10_in wsX10_in) := goodIn_app (goodIn_of _ (by decide +kernel)) ggX10_undo_X10_in
set_option maxRecDepth 20000 in
theorem ggX10_undo_X10_copies : GoodIn wsX10_undo wsX10_copies := goodIn_r _ [13] (by decide +kernel) (by decide +kernel)
set_option maxRecDepth 20000 in
theorem gX10_undo_X10_copies : GoodIn wsX10_undo (va_wsS RX10 57 yX10_copies wsX10_copies) := goodIn_app (goodIn_of _ (by decide +kernel)) ggX10_undo_X10_copies
set_option maxRecDepth 20000 in
theorem ggX10_layAside_X10_copies : GoodIn wsX10_layAside wsX10_copies := goodIn_r _ [6] (by decide +kernel) (by decide +kernel)
set_option maxRecDepth 20000 in
theorem gX10_layAside_X10_copies : GoodIn wsX10_layAside (va_wsS RX10 57 yX10_copies wsX10_copies) := goodIn_app (goodIn_of _ (by decide +kernel)) ggX10_layAside_X10_copies
set_option maxRecDepth 20000 in
theorem ggX10_joins_X10_layAside : GoodIn wsX10_joins wsX10_layAside := goodIn_r _ [6, 7, 1, 8, 9, 5, 10, 30, 31, 32, 33, 34, 35, 36, 37, 38, 39, 40, 41, 42, 43, 44, 45, 46, 47, 48, 49, 50, 51, 52, 53, 54] (by decide +kernel) (by decide +kernel)
set_option maxRecDepth 20000 in
theorem gX10_joins_X10_layAside : GoodIn wsX10_joins (wsV RX10 242 RX10 yX10_layAside wsX10_layAside) := goodIn_app (goodIn_of _ (by decide +kernel)) ggX10_joins_X10_layAside
set_option maxRecDepth 20000 in
theorem ggX10_joins_X10_weds : GoodIn wsX10_joins wsX10_weds := goodIn_r _ [14, 15, 16, 5, 17] (by decide +kernel) (by decide +kernel)
set_option maxRecDepth 20000 in
theorem gX10_joins_X10_weds : GoodIn wsX10_joins (wsV RX10 221 RX10 yX10_weds wsX10_weds) := goodIn_app (goodIn_of _ (by decide +kernel)) ggX10_joins_X10_weds
set_option maxRecDepth 20000 in
theorem ggX10_joins_X10_standing : GoodIn wsX10_joins wsX10_standing := goodIn_r _ [21, 22, 23, 24, 25, 5, 26, 27, 28, 29, 30, 31, 32, 33, 34, 35, 36, 37, 38, 39, 40, 41, 42, 43, 44, 45, 46, 47, 48, 49, 50, 51, 52, 53, 54] (by decide +kernel) (by decide +kernel)
set_option maxRecDepth 20000 in
theorem gX10_joins_X10_standing : GoodIn wsX10_joins (wsV RX10 179 RX10 yX10_standing wsX10_standing) := goodIn_app (goodIn_of _ (by decide +kernel)) ggX10_joins_X10_standing
set_option maxRecDepth 20000 in
theorem ggX10_joined_X10_isGirl : GoodIn wsX10_joined wsX10_isGirl := goodIn_r _ [7, 8, 9, 10, 11, 6, 12, 13, 14, 15, 16, 17, 18, 55, 56, 57, 58, 59, 60, 61, 62, 63, 64, 65, 66, 67, 68, 69, 70, 71, 72, 73, 74, 75, 76, 77, 78, 79] (by decide +kernel) (by decide +kernel)
set_option maxRecDepth 20000 in
theorem gX10_joined_X10_isGirl : GoodIn wsX10_joined (wsV RX10 215 RX10 yX10_isGirl wsX10_isGirl) := goodIn_app (goodIn_of _ (by decide +kernel)) ggX10_joined_X10_isGirl
set_option maxRecDepth 20000 in
theorem ggX10_joined_X10_isMan : GoodIn wsX10_joined wsX10_isMan := goodIn_r _ [22, 8, 9, 10, 11, 6, 12, 13, 14, 15, 16, 17, 18, 55, 56, 57, 58, 59, 60, 61, 62, 63, 64, 65, 66, 67, 68, 69, 70, 71, 72, 73, 74, 75, 76, 77, 78, 79] (by decide +kernel) (by decide +kernel)
set_option maxRecDepth 20000 in
theorem gX10_joined_X10_isMan : GoodIn wsX10_joined (wsV RX10 182 RX10 yX10_isMan wsX10_isMan) := goodIn_app (goodIn_of _ (by decide +kernel)) ggX10_joined_X10_isMan
set_option maxRecDepth 20000 in
theorem ggX10_joined_X10_areApart : GoodIn wsX10_joined wsX10_areApart := goodIn_r _ [26, 27, 55, 56, 57, 58, 59, 60, 61, 62, 63, 64, 65, 66, 67, 68, 69, 70, 71, 72, 73, 74, 75, 76, 77, 78, 79] (by decide +kernel) (by decide +kernel)
set_option maxRecDepth 20000 in
theorem gX10_joined_X10_areApart : GoodIn wsX10_joined (wsV RX10 218 RX10 yX10_areApart wsX10_areApart) := goodIn_app (goodIn_of _ (by decide +kernel)) ggX10_joined_X10_areApart
set_option maxRecDepth 20000 in
theorem ggX10_joined_X10_joins : GoodIn wsX10_joined wsX10_joins := goodIn_r _ [31, 32, 33, 34, 35, 6, 36, 27, 37, 38, 39, 40, 41, 42, 43, 44, 45, 46, 47, 48, 49, 50, 8, 51, 52, 53, 54, 16, 17, 18, 55, 56, 57, 58, 59, 60, 61, 62, 63, 64, 65, 66, 67, 68, 69, 70, 71, 72, 73, 74, 75, 76, 77, 78, 79] (by decide +kernel) (by decide +kernel)
set_option maxRecDepth 20000 in
theorem gX10_joined_X10_joins : GoodIn wsX10_joined (wsV RX10 245 RX10 yX10_joins wsX10_joins) := goodIn_app (goodIn_of _ (by decide +kernel)) ggX10_joined_X10_joins
set_option maxRecDepth 20000 in
theorem ggX10_takes_X10_layAside : GoodIn wsX10_takes wsX10_layAside := goodIn_r _ [9, 2, 4, 10, 11, 8, 12, 16, 17, 18, 19, 20, 21, 22, 23, 24, 25, 26, 27, 28, 29, 30, 31, 32, 33, 34, 35, 36, 37, 38, 39, 40] (by decide +kernel) (by decide +kernel)
set_option maxRecDepth 20000 in
theorem gX10_takes_X10_layAside : GoodIn wsX10_takes (wsV RX10 242 RX10 yX10_layAside wsX10_layAside) := goodIn_app (goodIn_of _ (by decide +kernel)) ggX10_takes_X10_layAside
set_option maxRecDepth 20000 in
theorem ggX10_takes_X10_has : GoodIn wsX10_takes wsX10_has := goodIn_r _ [15] (by decide +kernel) (by decide +kernel)
set_option maxRecDepth 20000 in
theorem gX10_takes_X10_has : GoodIn wsX10_takes (va_wsS RX10 142 yX10_has wsX10_has) := goodIn_app (goodIn_of _ (by decide +kernel)) ggX10_takes_X10_has
set_option maxRecDepth 20000 in
theorem ggX10_least_X10_isPerson : GoodIn wsX10_least wsX10_isPerson := goodIn_r _ [12, 6, 13, 14, 11, 15, 47, 48, 49, 50, 51, 52, 53, 54, 55, 56, 57, 58, 59, 60, 61, 62, 63, 64, 65, 66, 67, 68, 69, 70, 71] (by decide +kernel) (by decide +kernel)
set_option maxRecDepth 20000 in
theorem gX10_least_X10_isPerson : GoodIn wsX10_least (wsV RX10 139 RX10 yX10_isPerson wsX10_isPerson) := goodIn_app (goodIn_of _ (by decide +kernel)) ggX10_least_X10_isPerson
set_option maxRecDepth 20000 in
theorem ggX10_least_X10_in : GoodIn wsX10_least wsX10_in := goodIn_r _ [15] (by decide +kernel) (by decide +kernel)
set_option maxRecDepth 20000 in
theorem gX10_least_X10_in : GoodIn wsX10_least (va_wsS RX10 65 yX10_in wsX10_in) := goodIn_app (goodIn_of _ (by decide +kernel)) ggX10_least_X10_in
set_option maxRecDepth 20000 in
theorem ggX10_least_X10_isWedMan : GoodIn wsX10_least wsX10_isWedMan := goodIn_r _ [19, 20, 21, 22, 23, 11, 24, 6, 8, 9, 10, 12, 13, 14, 15, 25, 26, 27, 47, 48, 49, 50, 51, 52, 53, 54, 55, 56, 57, 58, 59, 60, 61, 62, 63, 64, 65, 66, 67, 68, 69, 70, 71] (by decide +kernel) (by decide +kernel)
set_option maxRecDepth 20000 in
theorem gX10_least_X10_isWedMan : GoodIn wsX10_least (wsV RX10 185 RX10 yX10_isWedMan wsX10_isWedMan) := goodIn_app (goodIn_of _ (by decide +kernel)) ggX10_least_X10_isWedMan
set_option maxRecDepth 20000 in
theorem ggX10_least_X10_takes : GoodIn wsX10_least wsX10_takes := goodIn_r _ [31, 6, 20, 5, 7, 32, 33, 34, 11, 35, 36, 37, 38, 25, 26, 27, 47, 48, 49, 50, 51, 52, 53, 54, 55, 56, 57, 58, 59, 60, 61, 62, 63, 64, 65, 66, 67, 68, 69, 70, 71] (by decide +kernel) (by decide +kernel)
set_option maxRecDepth 20000 in
theorem gX10_least_X10_takes : GoodIn wsX10_least (wsV RX10 251 RX10 yX10_takes wsX10_takes) := goodIn_app (goodIn_of _ (by decide +kernel)) ggX10_least_X10_takes
set_option maxRecDepth 20000 in
theorem ggX10_least_X10_standing : GoodIn wsX10_least wsX10_standing := goodIn_r _ [42, 6, 43, 44, 45, 11, 46, 25, 26, 27, 47, 48, 49, 50, 51, 52, 53, 54, 55, 56, 57, 58, 59, 60, 61, 62, 63, 64, 65, 66, 67, 68, 69, 70, 71] (by decide +kernel) (by decide +kernel)
set_option maxRecDepth 20000 in
theorem gX10_least_X10_standing : GoodIn wsX10_least (wsV RX10 179 RX10 yX10_standing wsX10_standing) := goodIn_app (goodIn_of _ (by decide +kernel)) ggX10_least_X10_standing
set_option maxRecDepth 20000 in
theorem ggX10_paysBy_X10_grows : GoodIn wsX10_paysBy wsX10_grows := goodIn_r _ [8, 1, 9, 10, 7, 11, 15, 16, 17, 18, 19, 20, 21, 22, 23, 24, 25, 26, 27, 28, 29, 30, 31, 32, 33, 34, 35, 36, 37, 38, 39] (by decide +kernel) (by decide +kernel)
set_option maxRecDepth 20000 in
theorem gX10_paysBy_X10_grows : GoodIn wsX10_paysBy (wsV RX10 154 RX10 yX10_grows wsX10_grows) := goodIn_app (goodIn_of _ (by decide +kernel)) ggX10_paysBy_X10_grows
set_option maxRecDepth 20000 in
theorem ggX10_paysBy_X10_in : GoodIn wsX10_paysBy wsX10_in := goodIn_r _ [14] (by decide +kernel) (by decide +kernel)
set_option maxRecDepth 20000 in
theorem gX10_paysBy_X10_in : GoodIn wsX10_paysBy (va_wsS RX10 65 yX10_in wsX10_in) := goodIn_app (goodIn_of _ (by decide +kernel)) ggX10_paysBy_X10_in
set_option maxRecDepth 20000 in
theorem ggX10_plan_X10_isPerson : GoodIn wsX10_plan wsX10_isPerson := goodIn_r _ [13, 14, 15, 16, 12, 17, 39, 40, 41, 42, 43, 44, 45, 46, 47, 48, 49, 50, 51, 52, 53, 54, 55, 56, 57, 58, 59, 60, 61, 62, 63] (by decide +kernel) (by decide +kernel)
set_option maxRecDepth 20000 in
theorem gX10_plan_X10_isPerson : GoodIn wsX10_plan (wsV RX10 139 RX10 yX10_isPerson wsX10_isPerson) := goodIn_app (goodIn_of _ (by decide +kernel)) ggX10_plan_X10_isPerson
set_option maxRecDepth 20000 in
theorem ggX10_plan_X10_isCreditor : GoodIn wsX10_plan wsX10_isCreditor := goodIn_r _ [21, 14, 15, 16, 12, 17, 39, 40, 41, 42, 43, 44, 45, 46, 47, 48, 49, 50, 51, 52, 53, 54, 55, 56, 57, 58, 59, 60, 61, 62, 63] (by decide +kernel) (by decide +kernel)
set_option maxRecDepth 20000 in
theorem gX10_plan_X10_isCreditor : GoodIn wsX10_plan (wsV RX10 172 RX10 yX10_isCreditor wsX10_isCreditor) := goodIn_app (goodIn_of _ (by decide +kernel)) ggX10_plan_X10_isCreditor
set_option maxRecDepth 20000 in
theorem ggX10_plan_X10_in : GoodIn wsX10_plan wsX10_in := goodIn_r _ [17] (by decide +kernel) (by decide +kernel)
set_option maxRecDepth 20000 in
theorem gX10_plan_X10_in : GoodIn wsX10_plan (va_wsS RX10 65 yX10_in wsX10_in) := goodIn_app (goodIn_of _ (by decide +kernel)) ggX10_plan_X10_in
set_option maxRecDepth 20000 in
theorem ggX10_plan_X10_has : GoodIn wsX10_plan wsX10_has := goodIn_r _ [24] (by decide +kernel) (by decide +kernel)
set_option maxRecDepth 20000 in
theorem gX10_plan_X10_has : GoodIn wsX10_plan (va_wsS RX10 142 yX10_has wsX10_has) := goodIn_app (goodIn_of _ (by decide +kernel)) ggX10_plan_X10_has
set_option maxRecDepth 20000 in
theorem ggX10_plan_X10_paysBy : GoodIn wsX10_plan wsX10_paysBy := goodIn_r _ [28, 14, 5, 6, 29, 30, 31, 12, 32, 33, 34, 35, 15, 16, 17, 39, 40, 41, 42, 43, 44, 45, 46, 47, 48, 49, 50, 51, 52, 53, 54, 55, 56, 57, 58, 59, 60, 61, 62, 63] (by decide +kernel) (by decide +kernel)
set_option maxRecDepth 20000 in
theorem gX10_plan_X10_paysBy : GoodIn wsX10_plan (wsV RX10 256 RX10 yX10_paysBy wsX10_paysBy) := goodIn_app (goodIn_of _ (by decide +kernel)) ggX10_plan_X10_paysBy
set_option maxRecDepth 20000 in
theorem ggX10_plan_X10_lesser : GoodIn wsX10_plan wsX10_lesser := goodIn_r _ [35] (by decide +kernel) (by decide +kernel)
set_option maxRecDepth 20000 in
theorem gX10_plan_X10_lesser : GoodIn wsX10_plan (va_wsS RX10 150 yX10_lesser wsX10_lesser) := goodIn_app (goodIn_of _ (by decide +kernel)) ggX10_plan_X10_lesser
set_option maxRecDepth 20000 in
theorem ggX10_plan_X10_copies : GoodIn wsX10_plan wsX10_copies := goodIn_r _ [38] (by decide +kernel) (by decide +kernel)
set_option maxRecDepth 20000 in
theorem gX10_plan_X10_copies : GoodIn wsX10_plan (va_wsS RX10 57 yX10_copies wsX10_copies) := goodIn_app (goodIn_of _ (by decide +kernel)) ggX10_plan_X10_copies
set_option maxRecDepth 20000 in
theorem ggX10_makesPairs_X10_wedOnes : GoodIn wsX10_makesPairs wsX10_wedOnes := goodIn_r _ [9, 4, 55, 56, 57, 58, 59, 60, 61, 62, 63, 64, 65, 66, 67, 68, 69, 70, 71, 72, 73, 74, 75, 76, 77, 78, 79] (by decide +kernel) (by decide +kernel)
set_option maxRecDepth 20000 in
theorem gX10_makesPairs_X10_wedOnes : GoodIn wsX10_makesPairs (wsV RX10 166 RX10 yX10_wedOnes wsX10_wedOnes) := goodIn_app (goodIn_of _ (by decide +kernel)) ggX10_makesPairs_X10_wedOnes
set_option maxRecDepth 20000 in
theorem ggX10_makesPairs_X10_isGirl : GoodIn wsX10_makesPairs wsX10_isGirl := goodIn_r _ [13, 3, 14, 15, 16, 8, 17, 18, 19, 20, 21, 22, 23, 55, 56, 57, 58, 59, 60, 61, 62, 63, 64, 65, 66, 67, 68, 69, 70, 71, 72, 73, 74, 75, 76, 77, 78, 79] (by decide +kernel) (by decide +kernel)
set_option maxRecDepth 20000 in
theorem gX10_makesPairs_X10_isGirl : GoodIn wsX10_makesPairs (wsV RX10 215 RX10 yX10_isGirl wsX10_isGirl) := goodIn_app (goodIn_of _ (by decide +kernel)) ggX10_makesPairs_X10_isGirl
set_option maxRecDepth 20000 in
theorem ggX10_makesPairs_X10_isMan : GoodIn wsX10_makesPairs wsX10_isMan := goodIn_r _ [27, 3, 14, 15, 16, 8, 17, 18, 19, 20, 21, 22, 23, 55, 56, 57, 58, 59, 60, 61, 62, 63, 64, 65, 66, 67, 68, 69, 70, 71, 72, 73, 74, 75, 76, 77, 78, 79] (by decide +kernel) (by decide +kernel)
set_option maxRecDepth 20000 in
theorem gX10_makesPairs_X10_isMan : GoodIn wsX10_makesPairs (wsV RX10 182 RX10 yX10_isMan wsX10_isMan) := goodIn_app (goodIn_of _ (by decide +kernel)) ggX10_makesPairs_X10_isMan
set_option maxRecDepth 20000 in
theorem ggX10_makesPairs_X10_has : GoodIn wsX10_makesPairs wsX10_has := goodIn_r _ [23] (by decide +kernel) (by decide +kernel)
set_option maxRecDepth 20000 in
theorem gX10_makesPairs_X10_has : GoodIn wsX10_makesPairs (va_wsS RX10 142 yX10_has wsX10_has) := goodIn_app (goodIn_of _ (by decide +kernel)) ggX10_makesPairs_X10_has
set_option maxRecDepth 20000 in
theorem ggX10_makesPairs_X10_joins : GoodIn wsX10_makesPairs wsX10_joins := goodIn_r _ [31, 32, 33, 34, 35, 8, 36, 4, 37, 38, 39, 40, 41, 42, 43, 44, 45, 46, 47, 48, 49, 50, 3, 51, 52, 53, 54, 21, 22, 23, 55, 56, 57, 58, 59, 60, 61, 62, 63, 64, 65, 66, 67, 68, 69, 70, 71, 72, 73, 74, 75, 76, 77, 78, 79] (by decide +kernel) (by decide +kernel)
set_option maxRecDepth 20000 in
theorem gX10_makesPairs_X10_joins : GoodIn wsX10_makesPairs (wsV RX10 245 RX10 yX10_joins wsX10_joins) := goodIn_app (goodIn_of _ (by decide +kernel)) ggX10_makesPairs_X10_joins
set_option maxRecDepth 20000 in
theorem ggX10_makesPairs_X10_standing : GoodIn wsX10_makesPairs wsX10_standing := goodIn_r _ [50, 3, 51, 52, 53, 8, 54, 21, 22, 23, 55, 56, 57, 58, 59, 60, 61, 62, 63, 64, 65, 66, 67, 68, 69, 70, 71, 72, 73, 74, 75, 76, 77, 78, 79] (by decide +kernel) (by decide +kernel)
set_option maxRecDepth 20000 in
theorem gX10_makesPairs_X10_standing : GoodIn wsX10_makesPairs (wsV RX10 179 RX10 yX10_standing wsX10_standing) := goodIn_app (goodIn_of _ (by decide +kernel)) ggX10_makesPairs_X10_standing
set_option maxRecDepth 20000 in
theorem ggX10_matches_X10_isGirl : GoodIn wsX10_matches wsX10_isGirl := goodIn_r _ [7, 8, 9, 10, 11, 6, 12, 13, 14, 15, 16, 17, 18, 60, 61, 62, 63, 64, 65, 66, 67, 68, 69, 70, 71, 72, 73, 74, 75, 76, 77, 78, 79, 80, 81, 82, 83, 84] (by decide +kernel) (by decide +kernel)
set_option maxRecDepth 20000 in
theorem gX10_matches_X10_isGirl : GoodIn wsX10_matches (wsV RX10 215 RX10 yX10_isGirl wsX10_isGirl) := goodIn_app (goodIn_of _ (by decide +kernel)) ggX10_matches_X10_isGirl
set_option maxRecDepth 20000 in
theorem ggX10_matches_X10_makesPairs : GoodIn wsX10_matches wsX10_makesPairs := goodIn_r _ [22, 2, 23, 8, 24, 25, 26, 27, 6, 28, 3, 4, 5, 7, 9, 10, 11, 12, 13, 14, 15, 16, 17, 18, 29, 30, 31, 32, 33, 34, 35, 36, 37, 38, 39, 40, 41, 42, 43, 44, 45, 46, 47, 48, 49, 50, 51, 52, 53, 54, 55, 56, 57, 58, 59, 60, 61, 62, 63, 64, 65, 66, 67, 68, 69, 70, 71, 72, 73, 74, 75, 76, 77, 78, 79, 80, 81, 82, 83, 84] (by decide +kernel) (by decide +kernel)
set_option maxRecDepth 20000 in
theorem gX10_matches_X10_makesPairs : GoodIn wsX10_matches (wsV RX10 262 RX10 yX10_makesPairs wsX10_makesPairs) := goodIn_app (goodIn_of _ (by decide +kernel)) ggX10_matches_X10_makesPairs
set_option maxRecDepth 20000 in
theorem ggX10_failing_X10_layAside : GoodIn wsX10_failing wsX10_layAside := goodIn_r _ [7, 2, 1, 8, 9, 6, 10, 34, 35, 36, 37, 38, 39, 40, 41, 42, 43, 44, 45, 46, 47, 48, 49, 50, 51, 52, 53, 54, 55, 56, 57, 58] (by decide +kernel) (by decide +kernel)
set_option maxRecDepth 20000 in
theorem gX10_failing_X10_layAside : GoodIn wsX10_failing (wsV RX10 242 RX10 yX10_layAside wsX10_layAside) := goodIn_app (goodIn_of _ (by decide +kernel)) ggX10_failing_X10_layAside
set_option maxRecDepth 20000 in
theorem ggX10_failing_X10_quarterGoes : GoodIn wsX10_failing wsX10_quarterGoes := goodIn_r _ [14, 15, 16, 17, 6, 18, 19, 20, 21, 22, 23, 24, 25, 26, 27, 28, 29, 30, 31, 32, 33, 34, 35, 36, 37, 38, 39, 40, 41, 42, 43, 44, 45, 46, 47, 48, 49, 50, 51, 52, 53, 54, 55, 56, 57, 58] (by decide +kernel) (by decide +kernel)
set_option maxRecDepth 20000 in
theorem gX10_failing_X10_quarterGoes : GoodIn wsX10_failing (wsV RX10 208 RX10 yX10_quarterGoes wsX10_quarterGoes) := goodIn_app (goodIn_of _ (by decide +kernel)) ggX10_failing_X10_quarterGoes
set_option maxRecDepth 20000 in
theorem ggX10_run_X10_in : GoodIn wsX10_run wsX10_in := goodIn_r _ [7] (by decide +kernel) (by decide +kernel)
set_option maxRecDepth 20000 in
theorem gX10_run_X10_in : GoodIn wsX10_run (va_wsS RX10 65 yX10_in wsX10_in) := goodIn_app (goodIn_of _ (by decide +kernel)) ggX10_run_X10_in
set_option maxRecDepth 20000 in
theorem ggX10_run_X10_layAside : GoodIn wsX10_run wsX10_layAside := goodIn_r _ [11, 12, 3, 13, 14, 6, 15, 39, 40, 41, 42, 43, 44, 45, 46, 47, 48, 49, 50, 51, 52, 53, 54, 55, 56, 57, 58, 59, 60, 61, 62, 63] (by decide +kernel) (by decide +kernel)
set_option maxRecDepth 20000 in
theorem gX10_run_X10_layAside : GoodIn wsX10_run (wsV RX10 242 RX10 yX10_layAside wsX10_layAside) := goodIn_app (goodIn_of _ (by decide +kernel)) ggX10_run_X10_layAside
set_option maxRecDepth 20000 in
theorem ggX10_run_X10_quarterGoes : GoodIn wsX10_run wsX10_quarterGoes := goodIn_r _ [19, 20, 21, 22, 6, 23, 24, 25, 26, 27, 28, 29, 30, 31, 32, 33, 34, 35, 36, 37, 38, 39, 40, 41, 42, 43, 44, 45, 46, 47, 48, 49, 50, 51, 52, 53, 54, 55, 56, 57, 58, 59, 60, 61, 62, 63] (by decide +kernel) (by decide +kernel)
set_option maxRecDepth 20000 in
theorem gX10_run_X10_quarterGoes : GoodIn wsX10_run (wsV RX10 208 RX10 yX10_quarterGoes wsX10_quarterGoes) := goodIn_app (goodIn_of _ (by decide +kernel)) ggX10_run_X10_quarterGoes
set_option maxRecDepth 20000 in
theorem ggX10_credit_X10_isPerson : GoodIn wsX10_credit wsX10_isPerson := goodIn_r _ [7, 8, 9, 10, 6, 11, 43, 44, 45, 46, 47, 48, 49, 50, 51, 52, 53, 54, 55, 56, 57, 58, 59, 60, 61, 62, 63, 64, 65, 66, 67] (by decide +kernel) (by decide +kernel)
set_option maxRecDepth 20000 in
theorem gX10_credit_X10_isPerson : GoodIn wsX10_credit (wsV RX10 139 RX10 yX10_isPerson wsX10_isPerson) := goodIn_app (goodIn_of _ (by decide +kernel)) ggX10_credit_X10_isPerson
set_option maxRecDepth 20000 in
theorem ggX10_credit_X10_isCreditor : GoodIn wsX10_credit wsX10_isCreditor := goodIn_r _ [15, 8, 9, 10, 6, 11, 43, 44, 45, 46, 47, 48, 49, 50, 51, 52, 53, 54, 55, 56, 57, 58, 59, 60, 61, 62, 63, 64, 65, 66, 67] (by decide +kernel) (by decide +kernel)
set_option maxRecDepth 20000 in
theorem gX10_credit_X10_isCreditor : GoodIn wsX10_credit (wsV RX10 172 RX10 yX10_isCreditor wsX10_isCreditor) := goodIn_app (goodIn_of _ (by decide +kernel)) ggX10_credit_X10_isCreditor
set_option maxRecDepth 20000 in
theorem ggX10_credit_X10_mayBorrow : GoodIn wsX10_credit wsX10_mayBorrow := goodIn_r _ [19, 20, 21, 22, 23, 6, 24, 25, 26, 27, 28, 8, 3, 4, 5, 7, 9, 10, 11, 29, 30, 31, 43, 44, 45, 46, 47, 48, 49, 50, 51, 52, 53, 54, 55, 56, 57, 58, 59, 60, 61, 62, 63, 64, 65, 66, 67] (by decide +kernel) (by decide +kernel)
set_option maxRecDepth 20000 in
theorem gX10_credit_X10_mayBorrow : GoodIn wsX10_credit (wsV RX10 190 RX10 yX10_mayBorrow wsX10_mayBorrow) := goodIn_app (goodIn_of _ (by decide +kernel)) ggX10_credit_X10_mayBorrow
set_option maxRecDepth 20000 in
theorem ggX10_credit_X10_layAside : GoodIn wsX10_credit wsX10_layAside := goodIn_r _ [35, 20, 2, 36, 37, 6, 38, 43, 44, 45, 46, 47, 48, 49, 50, 51, 52, 53, 54, 55, 56, 57, 58, 59, 60, 61, 62, 63, 64, 65, 66, 67] (by decide +kernel) (by decide +kernel)
set_option maxRecDepth 20000 in
theorem gX10_credit_X10_layAside : GoodIn wsX10_credit (wsV RX10 242 RX10 yX10_layAside wsX10_layAside) := goodIn_app (goodIn_of _ (by decide +kernel)) ggX10_credit_X10_layAside
set_option maxRecDepth 20000 in
theorem ggX10_credit_X10_temperOf : GoodIn wsX10_credit wsX10_temperOf := goodIn_r _ [42, 8, 29, 30, 6, 31, 43, 44, 45, 46, 47, 48, 49, 50, 51, 52, 53, 54, 55, 56, 57, 58, 59, 60, 61, 62, 63, 64, 65, 66, 67] (by decide +kernel) (by decide +kernel)
set_option maxRecDepth 20000 in
theorem gX10_credit_X10_temperOf : GoodIn wsX10_credit (wsV RX10 146 RX10 yX10_temperOf wsX10_temperOf) := goodIn_app (goodIn_of _ (by decide +kernel)) ggX10_credit_X10_temperOf
set_option maxRecDepth 20000 in
theorem ggX10_rumours_X10_in : GoodIn wsX10_rumours wsX10_in := goodIn_r _ [8] (by decide +kernel) (by decide +kernel)
set_option maxRecDepth 20000 in
theorem gX10_rumours_X10_in : GoodIn wsX10_rumours (va_wsS RX10 65 yX10_in wsX10_in) := goodIn_app (goodIn_of _ (by decide +kernel)) ggX10_rumours_X10_in
set_option maxRecDepth 20000 in
theorem ggX10_card_X10_isPerson : GoodIn wsX10_card wsX10_isPerson := goodIn_r _ [11, 12, 13, 14, 10, 15, 20, 21, 22, 23, 24, 25, 26, 27, 28, 29, 30, 31, 32, 33, 34, 35, 36, 37, 38, 39, 40, 41, 42, 43, 44] (by decide +kernel) (by decide +kernel)
set_option maxRecDepth 20000 in
theorem gX10_card_X10_isPerson : GoodIn wsX10_card (wsV RX10 139 RX10 yX10_isPerson wsX10_isPerson) := goodIn_app (goodIn_of _ (by decide +kernel)) ggX10_card_X10_isPerson
set_option maxRecDepth 20000 in
theorem ggX10_card_X10_isCreditor : GoodIn wsX10_card wsX10_isCreditor := goodIn_r _ [19, 12, 13, 14, 10, 15, 20, 21, 22, 23, 24, 25, 26, 27, 28, 29, 30, 31, 32, 33, 34, 35, 36, 37, 38, 39, 40, 41, 42, 43, 44] (by decide +kernel) (by decide +kernel)
set_option maxRecDepth 20000 in
theorem gX10_card_X10_isCreditor : GoodIn wsX10_card (wsV RX10 172 RX10 yX10_isCreditor wsX10_isCreditor) := goodIn_app (goodIn_of _ (by decide +kernel)) ggX10_card_X10_isCreditor
set_option maxRecDepth 20000 in
theorem ggX10_card_X10_in : GoodIn wsX10_card wsX10_in := goodIn_r _ [15] (by decide +kernel) (by decide +kernel)
set_option maxRecDepth 20000 in
theorem gX10_card_X10_in : GoodIn wsX10_card (va_wsS RX10 65 yX10_in wsX10_in) := goodIn_app (goodIn_of _ (by decide +kernel)) ggX10_card_X10_in
set_option maxRecDepth 20000 in
theorem ggX10_isCivil_X10_grows : GoodIn wsX10_isCivil wsX10_grows := goodIn_r _ [6, 1, 7, 8, 5, 9, 13, 14, 15, 16, 17, 18, 19, 20, 21, 22, 23, 24, 25, 26, 27, 28, 29, 30, 31, 32, 33, 34, 35, 36, 37] (by decide +kernel) (by decide +kernel)
set_option maxRecDepth 20000 in
theorem gX10_isCivil_X10_grows : GoodIn wsX10_isCivil (wsV RX10 154 RX10 yX10_grows wsX10_grows) := goodIn_app (goodIn_of _ (by decide +kernel)) ggX10_isCivil_X10_grows
set_option maxRecDepth 20000 in
theorem ggX10_isCivil_X10_in : GoodIn wsX10_isCivil wsX10_in := goodIn_r _ [12] (by decide +kernel) (by decide +kernel)
set_option maxRecDepth 20000 in
theorem gX10_isCivil_X10_in : GoodIn wsX10_isCivil (va_wsS RX10 65 yX10_in wsX10_in) := goodIn_app (goodIn_of _ (by decide +kernel)) ggX10_isCivil_X10_in
set_option maxRecDepth 20000 in
theorem ggX10_couldBe_X10_isCivil : GoodIn wsX10_couldBe wsX10_isCivil := goodIn_r _ [7, 8, 9, 10, 11, 6, 12, 13, 14, 15, 16, 17, 18, 19, 20, 21, 22, 23, 24, 25, 26, 27, 28, 29, 30, 31, 32, 33, 34, 35, 36, 37, 38, 39, 40, 41, 42, 43] (by decide +kernel) (by decide +kernel)
set_option maxRecDepth 20000 in
theorem gX10_couldBe_X10_isCivil : GoodIn wsX10_couldBe (wsV RX10 273 RX10 yX10_isCivil wsX10_isCivil) := goodIn_app (goodIn_of _ (by decide +kernel)) ggX10_couldBe_X10_isCivil
set_option maxRecDepth 20000 in
theorem ggX10_had_X10_isPerson : GoodIn wsX10_had wsX10_isPerson := goodIn_r _ [8, 9, 10, 11, 7, 12, 34, 35, 36, 37, 38, 39, 40, 41, 42, 43, 44, 45, 46, 47, 48, 49, 50, 51, 52, 53, 54, 55, 56, 57, 58] (by decide +kernel) (by decide +kernel)
set_option maxRecDepth 20000 in
theorem gX10_had_X10_isPerson : GoodIn wsX10_had (wsV RX10 139 RX10 yX10_isPerson wsX10_isPerson) := goodIn_app (goodIn_of _ (by decide +kernel)) ggX10_had_X10_isPerson
set_option maxRecDepth 20000 in
theorem ggX10_had_X10_isCreditor : GoodIn wsX10_had wsX10_isCreditor := goodIn_r _ [16, 9, 10, 11, 7, 12, 34, 35, 36, 37, 38, 39, 40, 41, 42, 43, 44, 45, 46, 47, 48, 49, 50, 51, 52, 53, 54, 55, 56, 57, 58] (by decide +kernel) (by decide +kernel)
set_option maxRecDepth 20000 in
theorem gX10_had_X10_isCreditor : GoodIn wsX10_had (wsV RX10 172 RX10 yX10_isCreditor wsX10_isCreditor) := goodIn_app (goodIn_of _ (by decide +kernel)) ggX10_had_X10_isCreditor
set_option maxRecDepth 20000 in
theorem ggX10_had_X10_in : GoodIn wsX10_had wsX10_in := goodIn_r _ [12] (by decide +kernel) (by decide +kernel)
set_option maxRecDepth 20000 in
theorem gX10_had_X10_in : GoodIn wsX10_had (va_wsS RX10 65 yX10_in wsX10_in) := goodIn_app (goodIn_of _ (by decide +kernel)) ggX10_had_X10_in
set_option maxRecDepth 20000 in
theorem ggX10_had_X10_couldBe : GoodIn wsX10_had wsX10_couldBe := goodIn_r _ [20, 21, 22, 23, 24, 25, 7, 26, 9, 27, 28, 29, 30, 31, 32, 33, 10, 11, 12, 34, 35, 36, 37, 38, 39, 40, 41, 42, 43, 44, 45, 46, 47, 48, 49, 50, 51, 52, 53, 54, 55, 56, 57, 58] (by decide +kernel) (by decide +kernel)
set_option maxRecDepth 20000 in
theorem gX10_had_X10_couldBe : GoodIn wsX10_had (wsV RX10 278 RX10 yX10_couldBe wsX10_couldBe) := goodIn_app (goodIn_of _ (by decide +kernel)) ggX10_had_X10_couldBe
set_option maxRecDepth 20000 in
theorem ggX10_lookAt_X10_isPerson : GoodIn wsX10_lookAt wsX10_isPerson := goodIn_r _ [6, 7, 8, 9, 5, 10, 38, 39, 40, 41, 42, 43, 44, 45, 46, 47, 48, 49, 50, 51, 52, 53, 54, 55, 56, 57, 58, 59, 60, 61, 62] (by decide +kernel) (by decide +kernel)
set_option maxRecDepth 20000 in
theorem gX10_lookAt_X10_isPerson : GoodIn wsX10_lookAt (wsV RX10 139 RX10 yX10_isPerson wsX10_isPerson) := goodIn_app (goodIn_of _ (by decide +kernel)) ggX10_lookAt_X10_isPerson
set_option maxRecDepth 20000 in
theorem ggX10_lookAt_X10_isCreditor : GoodIn wsX10_lookAt wsX10_isCreditor := goodIn_r _ [14, 7, 8, 9, 5, 10, 38, 39, 40, 41, 42, 43, 44, 45, 46, 47, 48, 49, 50, 51, 52, 53, 54, 55, 56, 57, 58, 59, 60, 61, 62] (by decide +kernel) (by decide +kernel)
set_option maxRecDepth 20000 in
theorem gX10_lookAt_X10_isCreditor : GoodIn wsX10_lookAt (wsV RX10 172 RX10 yX10_isCreditor wsX10_isCreditor) := goodIn_app (goodIn_of _ (by decide +kernel)) ggX10_lookAt_X10_isCreditor
set_option maxRecDepth 20000 in
theorem ggX10_lookAt_X10_had : GoodIn wsX10_lookAt wsX10_had := goodIn_r _ [18, 1, 19, 20, 2, 3, 4, 5, 6, 7, 8, 9, 10, 11, 12, 13, 14, 21, 22, 23, 24, 25, 26, 27, 28, 29, 30, 31, 32, 33, 34, 35, 36, 37, 38, 39, 40, 41, 42, 43, 44, 45, 46, 47, 48, 49, 50, 51, 52, 53, 54, 55, 56, 57, 58, 59, 60, 61, 62] (by decide +kernel) (by decide +kernel)
set_option maxRecDepth 20000 in
theorem gX10_lookAt_X10_had : GoodIn wsX10_lookAt (wsV RX10 281 RX10 yX10_had wsX10_had) := goodIn_app (goodIn_of _ (by decide +kernel)) ggX10_lookAt_X10_had
set_option maxRecDepth 20000 in
theorem ggX10_lookAt_X10_couldBe : GoodIn wsX10_lookAt wsX10_couldBe := goodIn_r _ [24, 25, 26, 27, 28, 29, 5, 30, 7, 31, 32, 33, 34, 35, 36, 37, 8, 9, 10, 38, 39, 40, 41, 42, 43, 44, 45, 46, 47, 48, 49, 50, 51, 52, 53, 54, 55, 56, 57, 58, 59, 60, 61, 62] (by decide +kernel) (by decide +kernel)
set_option maxRecDepth 20000 in
theorem gX10_lookAt_X10_couldBe : GoodIn wsX10_lookAt (wsV RX10 278 RX10 yX10_couldBe wsX10_couldBe) := goodIn_app (goodIn_of _ (by decide +kernel)) ggX10_lookAt_X10_couldBe
set_option maxRecDepth 20000 in
theorem ggX10_lookAt_X10_isCivil : GoodIn wsX10_lookAt wsX10_isCivil := goodIn_r _ [30, 7, 31, 32, 33, 5, 34, 35, 36, 37, 8, 9, 10, 38, 39, 40, 41, 42, 43, 44, 45, 46, 47, 48, 49, 50, 51, 52, 53, 54, 55, 56, 57, 58, 59, 60, 61, 62] (by decide +kernel) (by decide +kernel)
set_option maxRecDepth 20000 in
theorem gX10_lookAt_X10_isCivil : GoodIn wsX10_lookAt (wsV RX10 273 RX10 yX10_isCivil wsX10_isCivil) := goodIn_app (goodIn_of _ (by decide +kernel)) ggX10_lookAt_X10_isCivil
set_option maxRecDepth 20000 in
theorem ggX10_lookAt_X10_lesser : GoodIn wsX10_lookAt wsX10_lesser := goodIn_r _ [37] (by decide +kernel) (by decide +kernel)
set_option maxRecDepth 20000 in
theorem gX10_lookAt_X10_lesser : GoodIn wsX10_lookAt (va_wsS RX10 150 yX10_lesser wsX10_lesser) := goodIn_app (goodIn_of _ (by decide +kernel)) ggX10_lookAt_X10_lesser
set_option maxRecDepth 20000 in
theorem ggX10_write_X10_isPerson : GoodIn wsX10_write wsX10_isPerson := goodIn_r _ [12, 13, 14, 15, 11, 16, 17, 18, 19, 20, 21, 22, 23, 24, 25, 26, 27, 28, 29, 30, 31, 32, 33, 34, 35, 36, 37, 38, 39, 40, 41] (by decide +kernel) (by decide +kernel)
set_option maxRecDepth 20000 in
theorem gX10_write_X10_isPerson : GoodIn wsX10_write (wsV RX10 139 RX10 yX10_isPerson wsX10_isPerson) := goodIn_app (goodIn_of _ (by decide +kernel)) ggX10_write_X10_isPerson
set_option maxRecDepth 20000 in
theorem ggX10_write_X10_in : GoodIn wsX10_write wsX10_in := goodIn_r _ [16] (by decide +kernel) (by decide +kernel)
set_option maxRecDepth 20000 in
theorem gX10_write_X10_in : GoodIn wsX10_write (va_wsS RX10 65 yX10_in wsX10_in) := goodIn_app (goodIn_of _ (by decide +kernel)) ggX10_write_X10_in
set_option maxRecDepth 20000 in
theorem ggX10_judge_X10_standing : GoodIn wsX10_judge wsX10_standing := goodIn_r _ [8, 9, 10, 11, 12, 7, 13, 14, 15, 16, 17, 18, 19, 20, 21, 22, 23, 24, 25, 26, 27, 28, 29, 30, 31, 32, 33, 34, 35, 36, 37, 38, 39, 40, 41] (by decide +kernel) (by decide +kernel)
set_option maxRecDepth 20000 in
theorem gX10_judge_X10_standing : GoodIn wsX10_judge (wsV RX10 179 RX10 yX10_standing wsX10_standing) := goodIn_app (goodIn_of _ (by decide +kernel)) ggX10_judge_X10_standing
set_option maxRecDepth 20000 in
theorem ggX10_keep_X10_in : GoodIn wsX10_keep wsX10_in := goodIn_r _ [10] (by decide +kernel) (by decide +kernel)
set_option maxRecDepth 20000 in
theorem gX10_keep_X10_in : GoodIn wsX10_keep (va_wsS RX10 65 yX10_in wsX10_in) := goodIn_app (goodIn_of _ (by decide +kernel)) ggX10_keep_X10_in
set_option maxRecDepth 20000 in
theorem ggX10_keep_X10_copies : GoodIn wsX10_keep wsX10_copies := goodIn_r _ [13] (by decide +kernel) (by decide +kernel)
set_option maxRecDepth 20000 in
theorem gX10_keep_X10_copies : GoodIn wsX10_keep (va_wsS RX10 57 yX10_copies wsX10_copies) := goodIn_app (goodIn_of _ (by decide +kernel)) ggX10_keep_X10_copies
set_option maxRecDepth 20000 in
theorem ggX10_goBack_X10_in : GoodIn wsX10_goBack wsX10_in := goodIn_r _ [11] (by decide +kernel) (by decide +kernel)
set_option maxRecDepth 20000 in
theorem gX10_goBack_X10_in : GoodIn wsX10_goBack (va_wsS RX10 65 yX10_in wsX10_in) := goodIn_app (goodIn_of _ (by decide +kernel)) ggX10_goBack_X10_in
set_option maxRecDepth 20000 in
theorem ggX10_goBack_X10_copies : GoodIn wsX10_goBack wsX10_copies := goodIn_r _ [14] (by decide +kernel) (by decide +kernel)
set_option maxRecDepth 20000 in
theorem gX10_goBack_X10_copies : GoodIn wsX10_goBack (va_wsS RX10 57 yX10_copies wsX10_copies) := goodIn_app (goodIn_of _ (by decide +kernel)) ggX10_goBack_X10_copies
