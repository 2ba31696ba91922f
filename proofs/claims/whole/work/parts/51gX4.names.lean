set_option maxRecDepth 20000 in
theorem ggX4_pairAll_X7_wedSet : GoodIn wsX4_pairAll wsX7_wedSet := goodIn_r _ [6, 7, 8, 9, 76, 77, 78, 79, 80, 81, 82, 83, 84, 85, 86, 87, 88, 89, 90, 91] (by decide +kernel) (by decide +kernel)
set_option maxRecDepth 20000 in
theorem gX4_pairAll_X7_wedSet : GoodIn wsX4_pairAll (wsV RX4 15 RX7 yX7_wedSet wsX7_wedSet) := goodIn_app (goodIn_of _ (by decide +kernel)) ggX4_pairAll_X7_wedSet
set_option maxRecDepth 20000 in
theorem ggX4_pairAll_X4_bestPair : GoodIn wsX4_pairAll wsX4_bestPair := goodIn_r _ [13, 14, 15, 16, 17, 18, 19, 20, 21, 22, 23, 24, 25, 26, 27, 28, 29, 30, 31, 32, 33, 34, 5, 35, 7, 36, 37, 38, 39, 40, 41, 42, 43, 44, 45, 46, 47, 48, 49, 50, 51, 52, 53, 54, 55, 56, 57, 58, 59, 60, 61, 62, 63, 64, 65, 66, 67, 68, 69, 70, 71, 72, 73, 74, 76, 77, 78, 79, 80, 81, 82, 83, 84, 85, 86, 87, 88, 89, 90, 91] (by decide +kernel) (by decide +kernel)
set_option maxRecDepth 20000 in
theorem gX4_pairAll_X4_bestPair : GoodIn wsX4_pairAll (va_wsS RX4 21 yX4_bestPair wsX4_bestPair) := goodIn_app (goodIn_of _ (by decide +kernel)) ggX4_pairAll_X4_bestPair
set_option maxRecDepth 20000 in
theorem ggX4_bestPair_X8_isGirl : GoodIn wsX4_bestPair wsX8_isGirl := goodIn_r _ [8, 9, 10, 11, 12, 7, 13, 14, 71, 72, 73, 74, 75, 76, 77, 78, 79] (by decide +kernel) (by decide +kernel)
set_option maxRecDepth 20000 in
theorem gX4_bestPair_X8_isGirl : GoodIn wsX4_bestPair (wsV RX4 36 RX8 yX8_isGirl wsX8_isGirl) := goodIn_app (goodIn_of _ (by decide +kernel)) ggX4_bestPair_X8_isGirl
set_option maxRecDepth 20000 in
theorem ggX4_bestPair_X8_isMan : GoodIn wsX4_bestPair wsX8_isMan := goodIn_r _ [18, 9, 10, 11, 12, 7, 13, 14, 71, 72, 73, 74, 75, 76, 77, 78, 79] (by decide +kernel) (by decide +kernel)
set_option maxRecDepth 20000 in
theorem gX4_bestPair_X8_isMan : GoodIn wsX4_bestPair (wsV RX4 40 RX8 yX8_isMan wsX8_isMan) := goodIn_app (goodIn_of _ (by decide +kernel)) ggX4_bestPair_X8_isMan
set_option maxRecDepth 20000 in
theorem ggX4_bestPair_X7_standingJoined : GoodIn wsX4_bestPair wsX7_standingJoined := goodIn_r _ [23, 24, 25, 26, 27, 28, 29, 30, 31, 32, 22, 33, 34, 35, 36, 37, 38, 39, 40, 41, 42, 43, 44, 45, 46, 47, 48, 49, 50, 51, 52, 53, 54, 55, 64, 65, 66, 67, 68, 69, 70, 71, 72, 73, 74, 75, 76, 77, 78, 79] (by decide +kernel) (by decide +kernel)
set_option maxRecDepth 20000 in
theorem gX4_bestPair_X7_standingJoined : GoodIn wsX4_bestPair (wsV RX4 43 RX7 yX7_standingJoined wsX7_standingJoined) := goodIn_app (goodIn_of _ (by decide +kernel)) ggX4_bestPair_X7_standingJoined
set_option maxRecDepth 20000 in
theorem ggX4_bestPair_X7_standingOf : GoodIn wsX4_bestPair wsX7_standingOf := goodIn_r _ [59, 24, 25, 60, 61, 62, 22, 63, 35, 36, 37, 38, 39, 30, 31, 32, 33, 34, 40, 41, 42, 43, 44, 45, 46, 47, 48, 49, 50, 51, 52, 53, 54, 55, 64, 65, 66, 67, 68, 69, 70, 71, 72, 73, 74, 75, 76, 77, 78, 79] (by decide +kernel) (by decide +kernel)
set_option maxRecDepth 20000 in
theorem gX4_bestPair_X7_standingOf : GoodIn wsX4_bestPair (wsV RX4 47 RX7 yX7_standingOf wsX7_standingOf) := goodIn_app (goodIn_of _ (by decide +kernel)) ggX4_bestPair_X7_standingOf
