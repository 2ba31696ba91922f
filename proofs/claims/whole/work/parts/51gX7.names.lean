set_option maxRecDepth 20000 in
theorem ggX7_owedTogether_X7_owedTo : GoodIn wsX7_owedTogether wsX7_owedTo := goodIn_r _ [7, 8, 9, 10, 11, 12, 13, 14, 15] (by decide +kernel) (by decide +kernel)
set_option maxRecDepth 20000 in
theorem gX7_owedTogether_X7_owedTo : GoodIn wsX7_owedTogether (wsV RX7 52 RX7 yX7_owedTo wsX7_owedTo) := goodIn_app (goodIn_of _ (by decide +kernel)) ggX7_owedTogether_X7_owedTo
set_option maxRecDepth 20000 in
theorem ggX7_owedInAll_X7_owedTogether : GoodIn wsX7_owedInAll wsX7_owedTogether := goodIn_r _ [7, 1, 8, 9, 10, 11, 6, 12, 13, 14, 15, 16, 17, 18, 19, 20, 21, 22, 23, 24, 25, 26, 27, 28, 29] (by decide +kernel) (by decide +kernel)
set_option maxRecDepth 20000 in
theorem gX7_owedInAll_X7_owedTogether : GoodIn wsX7_owedInAll (wsV RX7 58 RX7 yX7_owedTogether wsX7_owedTogether) := goodIn_app (goodIn_of _ (by decide +kernel)) ggX7_owedInAll_X7_owedTogether
set_option maxRecDepth 20000 in
theorem ggX7_isWedMan_X8_isMan : GoodIn wsX7_isWedMan wsX8_isMan := goodIn_r _ [7, 8, 9, 10, 11, 6, 12, 13, 21, 22, 23, 24, 25, 26, 27, 28, 29] (by decide +kernel) (by decide +kernel)
set_option maxRecDepth 20000 in
theorem gX7_isWedMan_X8_isMan : GoodIn wsX7_isWedMan (wsV RX7 62 RX8 yX8_isMan wsX8_isMan) := goodIn_app (goodIn_of _ (by decide +kernel)) ggX7_isWedMan_X8_isMan
set_option maxRecDepth 20000 in
theorem ggX7_moodBy_X7_hasFailed : GoodIn wsX7_moodBy wsX7_hasFailed := goodIn_r _ [8, 9, 10, 11, 12, 13, 14, 15, 16] (by decide +kernel) (by decide +kernel)
set_option maxRecDepth 20000 in
theorem gX7_moodBy_X7_hasFailed : GoodIn wsX7_moodBy (wsV RX7 66 RX7 yX7_hasFailed wsX7_hasFailed) := goodIn_app (goodIn_of _ (by decide +kernel)) ggX7_moodBy_X7_hasFailed
set_option maxRecDepth 20000 in
theorem ggX7_moodTo_X7_owedTo : GoodIn wsX7_moodTo wsX7_owedTo := goodIn_r _ [5, 6, 24, 25, 26, 27, 28, 29, 30] (by decide +kernel) (by decide +kernel)
set_option maxRecDepth 20000 in
theorem gX7_moodTo_X7_owedTo : GoodIn wsX7_moodTo (wsV RX7 52 RX7 yX7_owedTo wsX7_owedTo) := goodIn_app (goodIn_of _ (by decide +kernel)) ggX7_moodTo_X7_owedTo
set_option maxRecDepth 20000 in
theorem ggX7_moodTo_X7_hasInsulted : GoodIn wsX7_moodTo wsX7_hasInsulted := goodIn_r _ [10, 11, 24, 25, 26, 27, 28, 29, 30] (by decide +kernel) (by decide +kernel)
set_option maxRecDepth 20000 in
theorem gX7_moodTo_X7_hasInsulted : GoodIn wsX7_moodTo (wsV RX7 75 RX7 yX7_hasInsulted wsX7_hasInsulted) := goodIn_app (goodIn_of _ (by decide +kernel)) ggX7_moodTo_X7_hasInsulted
set_option maxRecDepth 20000 in
theorem ggX7_moodTo_X7_moodBy : GoodIn wsX7_moodTo wsX7_moodBy := goodIn_r _ [15, 16, 17, 18, 19, 20, 21, 4, 22, 23, 24, 25, 26, 27, 28, 29, 30, 31, 32, 33, 34, 35, 36, 37, 38, 39] (by decide +kernel) (by decide +kernel)
set_option maxRecDepth 20000 in
theorem gX7_moodTo_X7_moodBy : GoodIn wsX7_moodTo (wsV RX7 79 RX7 yX7_moodBy wsX7_moodBy) := goodIn_app (goodIn_of _ (by decide +kernel)) ggX7_moodTo_X7_moodBy
set_option maxRecDepth 20000 in
theorem ggX7_personsByMood_X7_moodTo : GoodIn wsX7_personsByMood wsX7_moodTo := goodIn_r _ [7, 8, 9, 10, 6, 11, 12, 13, 14, 15, 16, 17, 18, 19, 20, 21, 1, 22, 23, 24, 25, 26, 27, 28, 29, 30, 31, 32, 33, 34, 35, 36, 37, 38, 39, 40, 41, 42, 43, 44] (by decide +kernel) (by decide +kernel)
set_option maxRecDepth 20000 in
theorem gX7_personsByMood_X7_moodTo : GoodIn wsX7_personsByMood (wsV RX7 83 RX7 yX7_moodTo wsX7_moodTo) := goodIn_app (goodIn_of _ (by decide +kernel)) ggX7_personsByMood_X7_moodTo
set_option maxRecDepth 20000 in
theorem ggX7_standingOf_X7_moodTo : GoodIn wsX7_standingOf wsX7_moodTo := goodIn_r _ [7, 8, 9, 10, 6, 11, 12, 13, 14, 15, 16, 17, 18, 19, 20, 21, 1, 22, 23, 24, 25, 26, 27, 28, 34, 35, 36, 37, 38, 39, 40, 41, 42, 43, 44, 45, 46, 47, 48, 49] (by decide +kernel) (by decide +kernel)
set_option maxRecDepth 20000 in
theorem gX7_standingOf_X7_moodTo : GoodIn wsX7_standingOf (wsV RX7 83 RX7 yX7_moodTo wsX7_moodTo) := goodIn_app (goodIn_of _ (by decide +kernel)) ggX7_standingOf_X7_moodTo
set_option maxRecDepth 20000 in
theorem ggX7_standingOf_X7_worthOf : GoodIn wsX7_standingOf wsX7_worthOf := goodIn_r _ [32, 1, 33, 34, 35, 36, 37, 38, 39, 40, 41, 42, 43, 44, 45, 46, 47, 48, 49] (by decide +kernel) (by decide +kernel)
set_option maxRecDepth 20000 in
theorem gX7_standingOf_X7_worthOf : GoodIn wsX7_standingOf (wsV RX7 89 RX7 yX7_worthOf wsX7_worthOf) := goodIn_app (goodIn_of _ (by decide +kernel)) ggX7_standingOf_X7_worthOf
set_option maxRecDepth 20000 in
theorem ggX7_standingJoined_X7_hasInsulted : GoodIn wsX7_standingJoined wsX7_hasInsulted := goodIn_r _ [11, 12, 34, 35, 36, 37, 38, 39, 40] (by decide +kernel) (by decide +kernel)
set_option maxRecDepth 20000 in
theorem gX7_standingJoined_X7_hasInsulted : GoodIn wsX7_standingJoined (wsV RX7 75 RX7 yX7_hasInsulted wsX7_hasInsulted) := goodIn_app (goodIn_of _ (by decide +kernel)) ggX7_standingJoined_X7_hasInsulted
set_option maxRecDepth 20000 in
theorem ggX7_standingJoined_X7_owedTo : GoodIn wsX7_standingJoined wsX7_owedTo := goodIn_r _ [16, 17, 34, 35, 36, 37, 38, 39, 40] (by decide +kernel) (by decide +kernel)
set_option maxRecDepth 20000 in
theorem gX7_standingJoined_X7_owedTo : GoodIn wsX7_standingJoined (wsV RX7 52 RX7 yX7_owedTo wsX7_owedTo) := goodIn_app (goodIn_of _ (by decide +kernel)) ggX7_standingJoined_X7_owedTo
set_option maxRecDepth 20000 in
theorem ggX7_standingJoined_X7_moodBy : GoodIn wsX7_standingJoined wsX7_moodBy := goodIn_r _ [21, 1, 22, 23, 24, 25, 26, 10, 27, 28, 34, 35, 36, 37, 38, 39, 40, 41, 42, 43, 44, 45, 46, 47, 48, 49] (by decide +kernel) (by decide +kernel)
set_option maxRecDepth 20000 in
theorem gX7_standingJoined_X7_moodBy : GoodIn wsX7_standingJoined (wsV RX7 79 RX7 yX7_moodBy wsX7_moodBy) := goodIn_app (goodIn_of _ (by decide +kernel)) ggX7_standingJoined_X7_moodBy
set_option maxRecDepth 20000 in
theorem ggX7_standingJoined_X7_worthOf : GoodIn wsX7_standingJoined wsX7_worthOf := goodIn_r _ [32, 1, 33, 34, 35, 36, 37, 38, 39, 40, 41, 42, 43, 44, 45, 46, 47, 48, 49] (by decide +kernel) (by decide +kernel)
set_option maxRecDepth 20000 in
theorem gX7_standingJoined_X7_worthOf : GoodIn wsX7_standingJoined (wsV RX7 89 RX7 yX7_worthOf wsX7_worthOf) := goodIn_app (goodIn_of _ (by decide +kernel)) ggX7_standingJoined_X7_worthOf
set_option maxRecDepth 20000 in
theorem ggX7_mayBorrow_X7_isWedMan : GoodIn wsX7_mayBorrow wsX7_isWedMan := goodIn_r _ [6, 7, 8, 9, 10, 11, 12, 13, 14, 15, 16, 17, 18, 19, 25, 26, 27, 28, 29, 30, 31, 32, 33, 34, 35, 36, 37, 38, 39, 40] (by decide +kernel) (by decide +kernel)
set_option maxRecDepth 20000 in
theorem gX7_mayBorrow_X7_isWedMan : GoodIn wsX7_mayBorrow (wsV RX7 92 RX7 yX7_isWedMan wsX7_isWedMan) := goodIn_app (goodIn_of _ (by decide +kernel)) ggX7_mayBorrow_X7_isWedMan
set_option maxRecDepth 20000 in
theorem ggX7_mayBorrow_X7_hasFailed : GoodIn wsX7_mayBorrow wsX7_hasFailed := goodIn_r _ [23, 24, 25, 26, 27, 28, 29, 30, 31] (by decide +kernel) (by decide +kernel)
set_option maxRecDepth 20000 in
theorem gX7_mayBorrow_X7_hasFailed : GoodIn wsX7_mayBorrow (wsV RX7 66 RX7 yX7_hasFailed wsX7_hasFailed) := goodIn_app (goodIn_of _ (by decide +kernel)) ggX7_mayBorrow_X7_hasFailed
set_option maxRecDepth 20000 in
theorem ggX7_lend_X7_owedTo : GoodIn wsX7_lend wsX7_owedTo := goodIn_r _ [6, 7, 16, 17, 18, 19, 20, 21, 22] (by decide +kernel) (by decide +kernel)
set_option maxRecDepth 20000 in
theorem gX7_lend_X7_owedTo : GoodIn wsX7_lend (wsV RX7 52 RX7 yX7_owedTo wsX7_owedTo) := goodIn_app (goodIn_of _ (by decide +kernel)) ggX7_lend_X7_owedTo
set_option maxRecDepth 20000 in
theorem ggX7_lend_X7_setOwed : GoodIn wsX7_lend wsX7_setOwed := goodIn_r _ [11, 7, 12, 13, 14, 15, 16, 17, 18, 19, 20, 21, 22] (by decide +kernel) (by decide +kernel)
set_option maxRecDepth 20000 in
theorem gX7_lend_X7_setOwed : GoodIn wsX7_lend (wsV RX7 95 RX7 yX7_setOwed wsX7_setOwed) := goodIn_app (goodIn_of _ (by decide +kernel)) ggX7_lend_X7_setOwed
set_option maxRecDepth 20000 in
theorem ggX7_settle_X7_owedTo : GoodIn wsX7_settle wsX7_owedTo := goodIn_r _ [13, 14, 19, 20, 21, 22, 23, 24, 25] (by decide +kernel) (by decide +kernel)
set_option maxRecDepth 20000 in
theorem gX7_settle_X7_owedTo : GoodIn wsX7_settle (wsV RX7 52 RX7 yX7_owedTo wsX7_owedTo) := goodIn_app (goodIn_of _ (by decide +kernel)) ggX7_settle_X7_owedTo
set_option maxRecDepth 20000 in
theorem ggX7_settle_X7_setOwed : GoodIn wsX7_settle wsX7_setOwed := goodIn_r _ [18, 14, 5, 6, 7, 8, 19, 20, 21, 22, 23, 24, 25] (by decide +kernel) (by decide +kernel)
set_option maxRecDepth 20000 in
theorem gX7_settle_X7_setOwed : GoodIn wsX7_settle (wsV RX7 95 RX7 yX7_setOwed wsX7_setOwed) := goodIn_app (goodIn_of _ (by decide +kernel)) ggX7_settle_X7_setOwed
set_option maxRecDepth 20000 in
theorem ggX7_unite_X7_owedTo : GoodIn wsX7_unite wsX7_owedTo := goodIn_r _ [9, 10, 19, 20, 21, 22, 23, 24, 25] (by decide +kernel) (by decide +kernel)
set_option maxRecDepth 20000 in
theorem gX7_unite_X7_owedTo : GoodIn wsX7_unite (wsV RX7 52 RX7 yX7_owedTo wsX7_owedTo) := goodIn_app (goodIn_of _ (by decide +kernel)) ggX7_unite_X7_owedTo
set_option maxRecDepth 20000 in
theorem ggX7_unite_X7_setOwed : GoodIn wsX7_unite wsX7_setOwed := goodIn_r _ [14, 10, 15, 16, 17, 18, 19, 20, 21, 22, 23, 24, 25] (by decide +kernel) (by decide +kernel)
set_option maxRecDepth 20000 in
theorem gX7_unite_X7_setOwed : GoodIn wsX7_unite (wsV RX7 95 RX7 yX7_setOwed wsX7_setOwed) := goodIn_app (goodIn_of _ (by decide +kernel)) ggX7_unite_X7_setOwed
set_option maxRecDepth 20000 in
theorem ggX7_part_X7_owedTo : GoodIn wsX7_part wsX7_owedTo := goodIn_r _ [9, 10, 19, 20, 21, 22, 23, 24, 25] (by decide +kernel) (by decide +kernel)
set_option maxRecDepth 20000 in
theorem gX7_part_X7_owedTo : GoodIn wsX7_part (wsV RX7 52 RX7 yX7_owedTo wsX7_owedTo) := goodIn_app (goodIn_of _ (by decide +kernel)) ggX7_part_X7_owedTo
set_option maxRecDepth 20000 in
theorem ggX7_part_X7_setOwed : GoodIn wsX7_part wsX7_setOwed := goodIn_r _ [14, 10, 15, 16, 17, 18, 19, 20, 21, 22, 23, 24, 25] (by decide +kernel) (by decide +kernel)
set_option maxRecDepth 20000 in
theorem gX7_part_X7_setOwed : GoodIn wsX7_part (wsV RX7 95 RX7 yX7_setOwed wsX7_setOwed) := goodIn_app (goodIn_of _ (by decide +kernel)) ggX7_part_X7_setOwed
set_option maxRecDepth 20000 in
theorem ggX7_passQuarter_X7_owedTo : GoodIn wsX7_passQuarter wsX7_owedTo := goodIn_r _ [12, 13, 55, 56, 57, 58, 59, 60, 61] (by decide +kernel) (by decide +kernel)
set_option maxRecDepth 20000 in
theorem gX7_passQuarter_X7_owedTo : GoodIn wsX7_passQuarter (wsV RX7 52 RX7 yX7_owedTo wsX7_owedTo) := goodIn_app (goodIn_of _ (by decide +kernel)) ggX7_passQuarter_X7_owedTo
set_option maxRecDepth 20000 in
theorem ggX7_passQuarter_X8_grown : GoodIn wsX7_passQuarter wsX8_grown := goodIn_r _ [18, 19, 20, 21, 22, 23, 62, 63, 64, 65, 66, 67, 68, 69, 70] (by decide +kernel) (by decide +kernel)
set_option maxRecDepth 20000 in
theorem gX7_passQuarter_X8_grown : GoodIn wsX7_passQuarter (wsV RX7 102 RX8 yX8_grown wsX8_grown) := goodIn_app (goodIn_of _ (by decide +kernel)) ggX7_passQuarter_X8_grown
set_option maxRecDepth 20000 in
theorem ggX7_passQuarter_X7_setOwed : GoodIn wsX7_passQuarter wsX7_setOwed := goodIn_r _ [27, 13, 28, 21, 22, 23, 55, 56, 57, 58, 59, 60, 61] (by decide +kernel) (by decide +kernel)
set_option maxRecDepth 20000 in
theorem gX7_passQuarter_X7_setOwed : GoodIn wsX7_passQuarter (wsV RX7 95 RX7 yX7_setOwed wsX7_setOwed) := goodIn_app (goodIn_of _ (by decide +kernel)) ggX7_passQuarter_X7_setOwed
set_option maxRecDepth 20000 in
theorem ggX7_passQuarter_X7_hasFailed : GoodIn wsX7_passQuarter wsX7_hasFailed := goodIn_r _ [32, 6, 55, 56, 57, 58, 59, 60, 61] (by decide +kernel) (by decide +kernel)
set_option maxRecDepth 20000 in
theorem gX7_passQuarter_X7_hasFailed : GoodIn wsX7_passQuarter (wsV RX7 66 RX7 yX7_hasFailed wsX7_hasFailed) := goodIn_app (goodIn_of _ (by decide +kernel)) ggX7_passQuarter_X7_hasFailed
set_option maxRecDepth 20000 in
theorem ggX7_passQuarter_X7_owedSourly : GoodIn wsX7_passQuarter wsX7_owedSourly := goodIn_r _ [36, 1, 2, 37, 38, 39, 11, 40, 8, 9, 10, 12, 13, 41, 42, 43, 44, 3, 45, 46, 47, 48, 49, 50, 29, 30, 31, 32, 6, 55, 56, 57, 58, 59, 60, 61, 62, 63, 64, 65, 66, 67, 68, 69, 70] (by decide +kernel) (by decide +kernel)
set_option maxRecDepth 20000 in
theorem gX7_passQuarter_X7_owedSourly : GoodIn wsX7_passQuarter (wsV RX7 105 RX7 yX7_owedSourly wsX7_owedSourly) := goodIn_app (goodIn_of _ (by decide +kernel)) ggX7_passQuarter_X7_owedSourly
set_option maxRecDepth 20000 in
theorem ggX7_passQuarter_X7_forgive : GoodIn wsX7_passQuarter wsX7_forgive := goodIn_r _ [54, 1, 2, 24, 25, 26, 11, 27, 13, 28, 21, 22, 23, 55, 56, 57, 58, 59, 60, 61, 62, 63, 64, 65, 66, 67, 68, 69, 70] (by decide +kernel) (by decide +kernel)
set_option maxRecDepth 20000 in
theorem gX7_passQuarter_X7_forgive : GoodIn wsX7_passQuarter (wsV RX7 108 RX7 yX7_forgive wsX7_forgive) := goodIn_app (goodIn_of _ (by decide +kernel)) ggX7_passQuarter_X7_forgive
set_option maxRecDepth 20000 in
theorem ggX7_owedSourly_X7_moodTo : GoodIn wsX7_owedSourly wsX7_moodTo := goodIn_r _ [7, 8, 9, 10, 6, 11, 12, 13, 14, 15, 16, 17, 18, 19, 20, 21, 1, 22, 23, 24, 25, 26, 27, 28, 29, 30, 31, 32, 33, 34, 35, 36, 37, 38, 39, 40, 41, 42, 43, 44] (by decide +kernel) (by decide +kernel)
set_option maxRecDepth 20000 in
theorem gX7_owedSourly_X7_moodTo : GoodIn wsX7_owedSourly (wsV RX7 83 RX7 yX7_moodTo wsX7_moodTo) := goodIn_app (goodIn_of _ (by decide +kernel)) ggX7_owedSourly_X7_moodTo
set_option maxRecDepth 20000 in
theorem ggX7_owedSourly_X7_owedTo : GoodIn wsX7_owedSourly wsX7_owedTo := goodIn_r _ [11, 12, 29, 30, 31, 32, 33, 34, 35] (by decide +kernel) (by decide +kernel)
set_option maxRecDepth 20000 in
theorem gX7_owedSourly_X7_owedTo : GoodIn wsX7_owedSourly (wsV RX7 52 RX7 yX7_owedTo wsX7_owedTo) := goodIn_app (goodIn_of _ (by decide +kernel)) ggX7_owedSourly_X7_owedTo
set_option maxRecDepth 20000 in
theorem ggX7_forgive_X7_setOwed : GoodIn wsX7_forgive wsX7_setOwed := goodIn_r _ [7, 8, 9, 10, 11, 12, 13, 14, 15, 16, 17, 18, 19] (by decide +kernel) (by decide +kernel)
set_option maxRecDepth 20000 in
theorem gX7_forgive_X7_setOwed : GoodIn wsX7_forgive (wsV RX7 95 RX7 yX7_setOwed wsX7_setOwed) := goodIn_app (goodIn_of _ (by decide +kernel)) ggX7_forgive_X7_setOwed
set_option maxRecDepth 20000 in
theorem ggX7_mayReachLow_X7_moodTo : GoodIn wsX7_mayReachLow wsX7_moodTo := goodIn_r _ [7, 8, 9, 10, 6, 11, 12, 13, 14, 15, 16, 17, 18, 19, 20, 21, 1, 2, 22, 23, 24, 25, 26, 27, 49, 50, 51, 52, 53, 54, 55, 56, 57, 58, 59, 60, 61, 62, 63, 64] (by decide +kernel) (by decide +kernel)
set_option maxRecDepth 20000 in
theorem gX7_mayReachLow_X7_moodTo : GoodIn wsX7_mayReachLow (wsV RX7 83 RX7 yX7_moodTo wsX7_moodTo) := goodIn_app (goodIn_of _ (by decide +kernel)) ggX7_mayReachLow_X7_moodTo
set_option maxRecDepth 20000 in
theorem ggX7_mayReachLow_X7_hasInsulted : GoodIn wsX7_mayReachLow wsX7_hasInsulted := goodIn_r _ [16, 17, 49, 50, 51, 52, 53, 54, 55] (by decide +kernel) (by decide +kernel)
set_option maxRecDepth 20000 in
theorem gX7_mayReachLow_X7_hasInsulted : GoodIn wsX7_mayReachLow (wsV RX7 75 RX7 yX7_hasInsulted wsX7_hasInsulted) := goodIn_app (goodIn_of _ (by decide +kernel)) ggX7_mayReachLow_X7_hasInsulted
set_option maxRecDepth 20000 in
theorem ggX7_mayReachLow_X7_owedTo : GoodIn wsX7_mayReachLow wsX7_owedTo := goodIn_r _ [11, 12, 49, 50, 51, 52, 53, 54, 55] (by decide +kernel) (by decide +kernel)
set_option maxRecDepth 20000 in
theorem gX7_mayReachLow_X7_owedTo : GoodIn wsX7_mayReachLow (wsV RX7 52 RX7 yX7_owedTo wsX7_owedTo) := goodIn_app (goodIn_of _ (by decide +kernel)) ggX7_mayReachLow_X7_owedTo
set_option maxRecDepth 20000 in
theorem ggX7_mayReachLow_X7_mayBorrow : GoodIn wsX7_mayReachLow wsX7_mayBorrow := goodIn_r _ [31, 32, 33, 34, 35, 6, 36, 1, 37, 38, 39, 40, 41, 42, 43, 44, 45, 46, 47, 48, 23, 24, 25, 26, 27, 49, 50, 51, 52, 53, 54, 55, 56, 57, 58, 59, 60, 61, 62, 63, 64] (by decide +kernel) (by decide +kernel)
set_option maxRecDepth 20000 in
theorem gX7_mayReachLow_X7_mayBorrow : GoodIn wsX7_mayReachLow (wsV RX7 112 RX7 yX7_mayBorrow wsX7_mayBorrow) := goodIn_app (goodIn_of _ (by decide +kernel)) ggX7_mayReachLow_X7_mayBorrow
set_option maxRecDepth 20000 in
theorem ggX7_coinsFor_X7_owedTo : GoodIn wsX7_coinsFor wsX7_owedTo := goodIn_r _ [8, 9, 10, 11, 12, 13, 14, 15, 16] (by decide +kernel) (by decide +kernel)
set_option maxRecDepth 20000 in
theorem gX7_coinsFor_X7_owedTo : GoodIn wsX7_coinsFor (wsV RX7 52 RX7 yX7_owedTo wsX7_owedTo) := goodIn_app (goodIn_of _ (by decide +kernel)) ggX7_coinsFor_X7_owedTo
set_option maxRecDepth 20000 in
theorem ggX7_cheapestSet_X7_mayReachLow : GoodIn wsX7_cheapestSet wsX7_mayReachLow := goodIn_r _ [8, 1, 9, 10, 11, 12, 7, 13, 14, 15, 16, 17, 18, 19, 20, 21, 22, 23, 24, 25, 26, 27, 28, 29, 30, 31, 32, 33, 34, 35, 36, 37, 38, 39, 40, 41, 42, 43, 44, 45, 46, 47, 48, 49, 50, 51, 52, 53, 54, 72, 73, 74, 75, 76, 77, 78, 79, 80, 81, 82, 83, 84, 85, 86, 87] (by decide +kernel) (by decide +kernel)
set_option maxRecDepth 20000 in
theorem gX7_cheapestSet_X7_mayReachLow : GoodIn wsX7_cheapestSet (wsV RX7 116 RX7 yX7_mayReachLow wsX7_mayReachLow) := goodIn_app (goodIn_of _ (by decide +kernel)) ggX7_cheapestSet_X7_mayReachLow
set_option maxRecDepth 20000 in
theorem ggX7_cheapestSet_X7_standingOf : GoodIn wsX7_cheapestSet wsX7_standingOf := goodIn_r _ [58, 1, 2, 10, 11, 12, 7, 13, 14, 15, 16, 17, 18, 19, 20, 21, 22, 23, 24, 25, 26, 27, 9, 28, 29, 30, 31, 32, 33, 59, 60, 61, 62, 63, 72, 73, 74, 75, 76, 77, 78, 79, 80, 81, 82, 83, 84, 85, 86, 87] (by decide +kernel) (by decide +kernel)
set_option maxRecDepth 20000 in
theorem gX7_cheapestSet_X7_standingOf : GoodIn wsX7_cheapestSet (wsV RX7 119 RX7 yX7_standingOf wsX7_standingOf) := goodIn_app (goodIn_of _ (by decide +kernel)) ggX7_cheapestSet_X7_standingOf
set_option maxRecDepth 20000 in
theorem ggX7_cheapestSet_X7_worthOfSet : GoodIn wsX7_cheapestSet wsX7_worthOfSet := goodIn_r _ [67, 1, 2, 63, 72, 73, 74, 75, 76, 77, 78, 79, 80, 81, 82, 83, 84, 85, 86, 87] (by decide +kernel) (by decide +kernel)
set_option maxRecDepth 20000 in
theorem gX7_cheapestSet_X7_worthOfSet : GoodIn wsX7_cheapestSet (wsV RX7 123 RX7 yX7_worthOfSet wsX7_worthOfSet) := goodIn_app (goodIn_of _ (by decide +kernel)) ggX7_cheapestSet_X7_worthOfSet
set_option maxRecDepth 20000 in
theorem ggX7_cheapestSet_X7_coinsFor : GoodIn wsX7_cheapestSet wsX7_coinsFor := goodIn_r _ [71, 1, 2, 9, 14, 15, 16, 7, 17, 18, 72, 73, 74, 75, 76, 77, 78, 79, 80, 81, 82, 83, 84, 85, 86, 87] (by decide +kernel) (by decide +kernel)
set_option maxRecDepth 20000 in
theorem gX7_cheapestSet_X7_coinsFor : GoodIn wsX7_cheapestSet (wsV RX7 126 RX7 yX7_coinsFor wsX7_coinsFor) := goodIn_app (goodIn_of _ (by decide +kernel)) ggX7_cheapestSet_X7_coinsFor
