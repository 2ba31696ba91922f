set_option maxRecDepth 20000 in
theorem ggX9_init_X6_init : GoodIn wsX9_init wsX6_init := goodIn_r _ [43, 44, 2, 3, 45, 9, 10, 46, 47, 13, 14, 48, 49, 50, 51, 52, 53, 54, 55, 56, 57, 58, 59, 60, 61, 62, 63, 64, 65, 66, 123, 124, 125, 126, 127, 128, 129, 130, 131, 104, 105, 106, 107, 108, 109, 110, 111, 132, 133, 134, 135, 136, 137, 138] (by decide +kernel) (by decide +kernel)
set_option maxRecDepth 20000 in
theorem gX9_init_X6_init_n9 : GoodIn wsX9_init (wsX6_init) := ggX9_init_X6_init
set_option maxRecDepth 20000 in
theorem ggX9_init_X8_init : GoodIn wsX9_init wsX8_init := goodIn_r _ [53, 54, 2, 3, 49, 55, 56, 57, 123, 124, 125, 126, 127, 128, 129, 130, 131] (by decide +kernel) (by decide +kernel)
set_option maxRecDepth 20000 in
theorem gX9_init_X8_init_n18 : GoodIn wsX9_init (wsX8_init) := ggX9_init_X8_init
set_option maxRecDepth 20000 in
theorem ggX9_init_X7_init : GoodIn wsX9_init wsX7_init := goodIn_r _ [60, 61, 2, 3, 49, 62, 63, 64, 65, 66, 132, 133, 134, 135, 136, 137, 138] (by decide +kernel) (by decide +kernel)
set_option maxRecDepth 20000 in
theorem gX9_init_X7_init : GoodIn wsX9_init (wsX7_init) := ggX9_init_X7_init
set_option maxRecDepth 20000 in
theorem ggX9_init_X2_init : GoodIn wsX9_init wsX2_init := goodIn_r _ [70, 71, 2, 3, 72, 73, 13, 14, 74, 59, 60, 61, 49, 62, 63, 64, 65, 66, 139, 140, 141, 132, 133, 134, 135, 136, 137, 138] (by decide +kernel) (by decide +kernel)
set_option maxRecDepth 20000 in
theorem gX9_init_X2_init : GoodIn wsX9_init (wsX2_init) := ggX9_init_X2_init
set_option maxRecDepth 20000 in
theorem ggX9_init_X4_init : GoodIn wsX9_init wsX4_init := goodIn_r _ [76, 77, 2, 3, 49, 78, 142] (by decide +kernel) (by decide +kernel)
set_option maxRecDepth 20000 in
theorem gX9_init_X4_init_n44 : GoodIn wsX9_init (wsX4_init) := ggX9_init_X4_init
set_option maxRecDepth 20000 in
theorem ggX9_init_X5_init : GoodIn wsX9_init wsX5_init := goodIn_r _ [80, 81, 2, 3, 49, 82, 143, 144, 145] (by decide +kernel) (by decide +kernel)
set_option maxRecDepth 20000 in
theorem gX9_init_X5_init_n51 : GoodIn wsX9_init (wsX5_init) := ggX9_init_X5_init
set_option maxRecDepth 20000 in
theorem ggX9_init_X1_init : GoodIn wsX9_init wsX1_init := goodIn_r _ [84, 85, 2, 3, 49, 86, 87, 88, 89, 90, 91, 146, 147, 148, 149, 150, 151, 152] (by decide +kernel) (by decide +kernel)
set_option maxRecDepth 20000 in
theorem gX9_init_X1_init_n58 : GoodIn wsX9_init (wsX1_init) := ggX9_init_X1_init
set_option maxRecDepth 20000 in
theorem ggX9_init_X0_init : GoodIn wsX9_init wsX0_init := goodIn_r _ [93, 94, 2, 3, 49, 95, 96, 153, 154, 155] (by decide +kernel) (by decide +kernel)
set_option maxRecDepth 20000 in
theorem gX9_init_X0_init_n65 : GoodIn wsX9_init (wsX0_init) := ggX9_init_X0_init
set_option maxRecDepth 20000 in
theorem ggX9_init_X3_init : GoodIn wsX9_init wsX3_init := goodIn_r _ [99, 100, 2, 3, 101, 13, 14, 102, 103, 59, 60, 61, 49, 62, 63, 64, 65, 66, 132, 133, 134, 135, 136, 137, 138, 156, 157, 158] (by decide +kernel) (by decide +kernel)
set_option maxRecDepth 20000 in
theorem gX9_init_X3_init : GoodIn wsX9_init (wsX3_init) := ggX9_init_X3_init
set_option maxRecDepth 20000 in
theorem ggX9_feed_X6_add : GoodIn wsX9_feed wsX6_add := goodIn_r _ [9, 10, 11, 23, 24, 25, 26, 27, 28, 29, 30] (by decide +kernel) (by decide +kernel)
set_option maxRecDepth 20000 in
theorem gX9_feed_X6_add : GoodIn wsX9_feed (wsV RX9 82 RX6 yX6_add wsX6_add) := goodIn_app (goodIn_of _ (by decide +kernel)) ggX9_feed_X6_add
set_option maxRecDepth 20000 in
theorem ggX9_town_X6_readAll : GoodIn wsX9_town wsX6_readAll := goodIn_r _ [19, 20, 21, 22, 23, 24, 25, 26, 27, 28, 29, 30, 31, 32, 33, 34, 35, 36, 37, 38, 39, 40, 41, 42, 43, 44, 45, 46, 47, 48, 49, 50, 51, 18, 52, 53, 54, 55, 56, 57, 58, 59, 60, 61, 62, 63, 64, 65, 66, 67, 68, 69, 70, 71, 72, 73, 74, 75, 76, 77, 78, 79, 80, 81, 82, 83, 84, 85, 86, 87, 88, 89, 90, 91, 92, 93, 94, 95, 96, 97, 98, 99, 100, 101, 102, 103, 104, 105, 106, 140, 141, 142, 143, 144, 145, 146, 147, 161, 162, 163, 164, 165, 166, 167, 168, 169, 170, 171, 172, 173, 174, 175, 176] (by decide +kernel) (by decide +kernel)
set_option maxRecDepth 20000 in
theorem gX9_town_X6_readAll : GoodIn wsX9_town (wsV RX9 90 RX6 yX6_readAll wsX6_readAll) := goodIn_app (goodIn_of _ (by decide +kernel)) ggX9_town_X6_readAll
set_option maxRecDepth 20000 in
theorem ggX9_town_X8_take : GoodIn wsX9_town wsX8_take := goodIn_r _ [110, 32, 33, 34, 35, 36, 37, 111, 112, 113, 114, 115, 116, 117, 161, 162, 163, 164, 165, 166, 167, 168, 169] (by decide +kernel) (by decide +kernel)
set_option maxRecDepth 20000 in
theorem gX9_town_X8_take : GoodIn wsX9_town (wsV RX9 97 RX8 yX8_take wsX8_take) := goodIn_app (goodIn_of _ (by decide +kernel)) ggX9_town_X8_take
set_option maxRecDepth 20000 in
theorem ggX9_town_X7_take : GoodIn wsX9_town wsX7_take := goodIn_r _ [121, 43, 122, 113, 114, 115, 44, 45, 46, 47, 48, 170, 171, 172, 173, 174, 175, 176] (by decide +kernel) (by decide +kernel)
set_option maxRecDepth 20000 in
theorem gX9_town_X7_take : GoodIn wsX9_town (wsV RX9 103 RX7 yX7_take wsX7_take) := goodIn_app (goodIn_of _ (by decide +kernel)) ggX9_town_X7_take
set_option maxRecDepth 20000 in
theorem ggX9_town_X2_forget : GoodIn wsX9_town wsX2_forget := goodIn_r _ [127, 128, 177, 178, 179] (by decide +kernel) (by decide +kernel)
set_option maxRecDepth 20000 in
theorem gX9_town_X2_forget : GoodIn wsX9_town (wsV RX9 106 RX2 yX2_forget wsX2_forget) := goodIn_app (goodIn_of _ (by decide +kernel)) ggX9_town_X2_forget
set_option maxRecDepth 20000 in
theorem ggX9_told_X7_wedSet : GoodIn wsX9_told wsX7_wedSet := goodIn_r _ [24, 25, 26, 27, 70, 71, 72, 73, 74, 75, 76, 53, 54, 55, 56, 57, 58, 59, 60, 61] (by decide +kernel) (by decide +kernel)
set_option maxRecDepth 20000 in
theorem gX9_told_X7_wedSet : GoodIn wsX9_told (wsV RX9 141 RX7 yX7_wedSet wsX7_wedSet) := goodIn_app (goodIn_of _ (by decide +kernel)) ggX9_told_X7_wedSet
set_option maxRecDepth 20000 in
theorem ggX9_told_X7_owedInAll : GoodIn wsX9_told wsX7_owedInAll := goodIn_r _ [31, 25, 26, 32, 33, 34, 23, 35, 36, 37, 38, 39, 40, 41, 70, 71, 72, 73, 74, 75, 76, 53, 54, 55, 56, 57, 58, 59, 60, 61] (by decide +kernel) (by decide +kernel)
set_option maxRecDepth 20000 in
theorem gX9_told_X7_owedInAll : GoodIn wsX9_told (wsV RX9 148 RX7 yX7_owedInAll wsX7_owedInAll) := goodIn_app (goodIn_of _ (by decide +kernel)) ggX9_told_X7_owedInAll
set_option maxRecDepth 20000 in
theorem ggX9_creditor_X8_hasCreditor : GoodIn wsX9_creditor wsX8_hasCreditor := goodIn_r _ [13, 14, 65, 66, 67, 68, 69, 70, 71, 72, 73] (by decide +kernel) (by decide +kernel)
set_option maxRecDepth 20000 in
theorem gX9_creditor_X8_hasCreditor : GoodIn wsX9_creditor (wsV RX9 152 RX8 yX8_hasCreditor wsX8_hasCreditor) := goodIn_app (goodIn_of _ (by decide +kernel)) ggX9_creditor_X8_hasCreditor
set_option maxRecDepth 20000 in
theorem ggX9_creditor_X7_personsByMood : GoodIn wsX9_creditor wsX7_personsByMood := goodIn_r _ [19, 20, 21, 22, 23, 24, 18, 25, 26, 27, 28, 29, 30, 31, 32, 33, 34, 35, 36, 37, 38, 39, 40, 41, 42, 43, 44, 45, 46, 58, 59, 60, 61, 62, 63, 64, 65, 66, 67, 68, 69, 70, 71, 72, 73] (by decide +kernel) (by decide +kernel)
set_option maxRecDepth 20000 in
theorem gX9_creditor_X7_personsByMood : GoodIn wsX9_creditor (wsV RX9 169 RX7 yX7_personsByMood wsX7_personsByMood) := goodIn_app (goodIn_of _ (by decide +kernel)) ggX9_creditor_X7_personsByMood
set_option maxRecDepth 20000 in
theorem ggX9_person_X8_hasPerson : GoodIn wsX9_person wsX8_hasPerson := goodIn_r _ [11, 12, 78, 79, 80, 81, 82, 83, 84, 85, 86] (by decide +kernel) (by decide +kernel)
set_option maxRecDepth 20000 in
theorem gX9_person_X8_hasPerson : GoodIn wsX9_person (wsV RX9 173 RX8 yX8_hasPerson wsX8_hasPerson) := goodIn_app (goodIn_of _ (by decide +kernel)) ggX9_person_X8_hasPerson
set_option maxRecDepth 20000 in
theorem ggX9_person_X8_isGirl : GoodIn wsX9_person wsX8_isGirl := goodIn_r _ [16, 17, 18, 8, 9, 10, 11, 12, 78, 79, 80, 81, 82, 83, 84, 85, 86] (by decide +kernel) (by decide +kernel)
set_option maxRecDepth 20000 in
theorem gX9_person_X8_isGirl : GoodIn wsX9_person (wsV RX9 176 RX8 yX8_isGirl wsX8_isGirl) := goodIn_app (goodIn_of _ (by decide +kernel)) ggX9_person_X8_isGirl
set_option maxRecDepth 20000 in
theorem ggX9_person_X7_owedTogether : GoodIn wsX9_person wsX7_owedTogether := goodIn_r _ [23, 24, 25, 26, 27, 28, 22, 29, 30, 71, 72, 73, 74, 75, 76, 77, 78, 79, 80, 81, 82, 83, 84, 85, 86] (by decide +kernel) (by decide +kernel)
set_option maxRecDepth 20000 in
theorem gX9_person_X7_owedTogether : GoodIn wsX9_person (wsV RX9 182 RX7 yX7_owedTogether wsX7_owedTogether) := goodIn_app (goodIn_of _ (by decide +kernel)) ggX9_person_X7_owedTogether
set_option maxRecDepth 20000 in
theorem ggX9_person_X7_standingOf : GoodIn wsX9_person wsX7_standingOf := goodIn_r _ [34, 24, 25, 35, 36, 37, 22, 38, 26, 27, 28, 29, 30, 39, 40, 41, 42, 43, 44, 45, 46, 47, 48, 49, 50, 51, 52, 53, 54, 55, 56, 57, 58, 59, 71, 72, 73, 74, 75, 76, 77, 78, 79, 80, 81, 82, 83, 84, 85, 86] (by decide +kernel) (by decide +kernel)
set_option maxRecDepth 20000 in
theorem gX9_person_X7_standingOf : GoodIn wsX9_person (wsV RX9 186 RX7 yX7_standingOf wsX7_standingOf) := goodIn_app (goodIn_of _ (by decide +kernel)) ggX9_person_X7_standingOf
set_option maxRecDepth 20000 in
theorem ggX9_owes_X8_hasBoth : GoodIn wsX9_owes wsX8_hasBoth := goodIn_r _ [8, 9, 10, 11, 7, 12, 13, 14, 15, 16, 17, 18, 36, 37, 38, 39, 40, 41, 42, 43, 44] (by decide +kernel) (by decide +kernel)
set_option maxRecDepth 20000 in
theorem gX9_owes_X8_hasBoth : GoodIn wsX9_owes (wsV RX9 192 RX8 yX8_hasBoth wsX8_hasBoth) := goodIn_app (goodIn_of _ (by decide +kernel)) ggX9_owes_X8_hasBoth
set_option maxRecDepth 20000 in
theorem ggX9_owes_X7_owedTo : GoodIn wsX9_owes wsX7_owedTo := goodIn_r _ [23, 24, 45, 46, 47, 48, 49, 50, 51] (by decide +kernel) (by decide +kernel)
set_option maxRecDepth 20000 in
theorem gX9_owes_X7_owedTo : GoodIn wsX9_owes (wsV RX9 196 RX7 yX7_owedTo wsX7_owedTo) := goodIn_app (goodIn_of _ (by decide +kernel)) ggX9_owes_X7_owedTo
set_option maxRecDepth 20000 in
theorem ggX9_temper_X8_hasBoth : GoodIn wsX9_temper wsX8_hasBoth := goodIn_r _ [8, 9, 10, 11, 7, 12, 13, 14, 15, 16, 17, 18, 57, 58, 59, 60, 61, 62, 63, 64, 65] (by decide +kernel) (by decide +kernel)
set_option maxRecDepth 20000 in
theorem gX9_temper_X8_hasBoth : GoodIn wsX9_temper (wsV RX9 192 RX8 yX8_hasBoth wsX8_hasBoth) := goodIn_app (goodIn_of _ (by decide +kernel)) ggX9_temper_X8_hasBoth
set_option maxRecDepth 20000 in
theorem ggX9_temper_X7_moodTo : GoodIn wsX9_temper wsX7_moodTo := goodIn_r _ [23, 24, 25, 26, 22, 27, 28, 29, 30, 31, 32, 33, 34, 35, 36, 37, 38, 39, 40, 41, 42, 43, 44, 45, 66, 67, 68, 69, 70, 71, 72, 57, 58, 59, 60, 61, 62, 63, 64, 65] (by decide +kernel) (by decide +kernel)
set_option maxRecDepth 20000 in
theorem gX9_temper_X7_moodTo : GoodIn wsX9_temper (wsV RX9 199 RX7 yX7_moodTo wsX7_moodTo) := goodIn_app (goodIn_of _ (by decide +kernel)) ggX9_temper_X7_moodTo
set_option maxRecDepth 20000 in
theorem ggX9_borrow_X8_hasBoth : GoodIn wsX9_borrow wsX8_hasBoth := goodIn_r _ [11, 12, 13, 14, 10, 15, 16, 17, 18, 19, 20, 21, 91, 92, 93, 94, 95, 96, 97, 98, 99] (by decide +kernel) (by decide +kernel)
set_option maxRecDepth 20000 in
theorem gX9_borrow_X8_hasBoth : GoodIn wsX9_borrow (wsV RX9 192 RX8 yX8_hasBoth wsX8_hasBoth) := goodIn_app (goodIn_of _ (by decide +kernel)) ggX9_borrow_X8_hasBoth
set_option maxRecDepth 20000 in
theorem ggX9_borrow_X7_mayBorrow : GoodIn wsX9_borrow wsX7_mayBorrow := goodIn_r _ [26, 27, 28, 29, 30, 25, 31, 32, 33, 34, 35, 36, 10, 37, 38, 12, 13, 14, 15, 16, 39, 40, 41, 42, 43, 100, 101, 102, 103, 104, 105, 106, 91, 92, 93, 94, 95, 96, 97, 98, 99] (by decide +kernel) (by decide +kernel)
set_option maxRecDepth 20000 in
theorem gX9_borrow_X7_mayBorrow : GoodIn wsX9_borrow (wsV RX9 202 RX7 yX7_mayBorrow wsX7_mayBorrow) := goodIn_app (goodIn_of _ (by decide +kernel)) ggX9_borrow_X7_mayBorrow
set_option maxRecDepth 20000 in
theorem ggX9_borrow_X2_note : GoodIn wsX9_borrow wsX2_note := goodIn_r _ [48, 49, 50, 51, 52, 53, 54, 25, 55, 56, 57, 58, 59, 60, 27, 61, 33, 43, 62, 107, 108, 109, 100, 101, 102, 103, 104, 105, 106] (by decide +kernel) (by decide +kernel)
set_option maxRecDepth 20000 in
theorem gX9_borrow_X2_note : GoodIn wsX9_borrow (wsV RX9 207 RX2 yX2_note wsX2_note) := goodIn_app (goodIn_of _ (by decide +kernel)) ggX9_borrow_X2_note
set_option maxRecDepth 20000 in
theorem ggX9_borrow_X7_lend : GoodIn wsX9_borrow wsX7_lend := goodIn_r _ [66, 27, 67, 68, 69, 25, 70, 56, 71, 72, 73, 74, 75, 76, 77, 78, 100, 101, 102, 103, 104, 105, 106] (by decide +kernel) (by decide +kernel)
set_option maxRecDepth 20000 in
theorem gX9_borrow_X7_lend : GoodIn wsX9_borrow (wsV RX9 210 RX7 yX7_lend wsX7_lend) := goodIn_app (goodIn_of _ (by decide +kernel)) ggX9_borrow_X7_lend
set_option maxRecDepth 20000 in
theorem ggX9_borrow_X7_owedTo : GoodIn wsX9_borrow wsX7_owedTo := goodIn_r _ [70, 56, 100, 101, 102, 103, 104, 105, 106] (by decide +kernel) (by decide +kernel)
set_option maxRecDepth 20000 in
theorem gX9_borrow_X7_owedTo : GoodIn wsX9_borrow (wsV RX9 196 RX7 yX7_owedTo wsX7_owedTo) := goodIn_app (goodIn_of _ (by decide +kernel)) ggX9_borrow_X7_owedTo
set_option maxRecDepth 20000 in
theorem ggX9_pay_X8_hasBoth : GoodIn wsX9_pay wsX8_hasBoth := goodIn_r _ [11, 12, 13, 14, 10, 15, 16, 17, 18, 19, 20, 21, 75, 76, 77, 78, 79, 80, 81, 82, 83] (by decide +kernel) (by decide +kernel)
set_option maxRecDepth 20000 in
theorem gX9_pay_X8_hasBoth : GoodIn wsX9_pay (wsV RX9 192 RX8 yX8_hasBoth wsX8_hasBoth) := goodIn_app (goodIn_of _ (by decide +kernel)) ggX9_pay_X8_hasBoth
set_option maxRecDepth 20000 in
theorem ggX9_pay_X7_owedTo : GoodIn wsX9_pay wsX7_owedTo := goodIn_r _ [26, 27, 84, 85, 86, 87, 88, 89, 90] (by decide +kernel) (by decide +kernel)
set_option maxRecDepth 20000 in
theorem gX9_pay_X7_owedTo : GoodIn wsX9_pay (wsV RX9 196 RX7 yX7_owedTo wsX7_owedTo) := goodIn_app (goodIn_of _ (by decide +kernel)) ggX9_pay_X7_owedTo
set_option maxRecDepth 20000 in
theorem ggX9_pay_X2_note : GoodIn wsX9_pay wsX2_note := goodIn_r _ [32, 33, 34, 35, 36, 37, 38, 25, 39, 27, 40, 41, 42, 43, 44, 45, 46, 47, 48, 91, 92, 93, 84, 85, 86, 87, 88, 89, 90] (by decide +kernel) (by decide +kernel)
set_option maxRecDepth 20000 in
theorem gX9_pay_X2_note : GoodIn wsX9_pay (wsV RX9 207 RX2 yX2_note wsX2_note) := goodIn_app (goodIn_of _ (by decide +kernel)) ggX9_pay_X2_note
set_option maxRecDepth 20000 in
theorem ggX9_pay_X7_settle : GoodIn wsX9_pay wsX7_settle := goodIn_r _ [52, 53, 54, 45, 44, 55, 56, 57, 58, 59, 23, 24, 25, 26, 27, 60, 61, 62, 63, 84, 85, 86, 87, 88, 89, 90, 75, 76, 77, 78, 79, 80, 81, 82, 83] (by decide +kernel) (by decide +kernel)
set_option maxRecDepth 20000 in
theorem gX9_pay_X7_settle : GoodIn wsX9_pay (wsV RX9 214 RX7 yX7_settle wsX7_settle) := goodIn_app (goodIn_of _ (by decide +kernel)) ggX9_pay_X7_settle
set_option maxRecDepth 20000 in
theorem ggX9_quarter_X9_refusalOfQuarters : GoodIn wsX9_quarter wsX9_refusalOfQuarters := goodIn_r _ [7, 8, 9, 10, 11, 2, 12, 13, 96, 97, 98, 99, 100, 101, 102, 103, 104, 105, 106, 107, 108, 109, 110, 111, 112, 113, 114, 115, 116, 117, 118, 119, 120, 121, 122] (by decide +kernel) (by decide +kernel)
set_option maxRecDepth 20000 in
theorem gX9_quarter_X9_refusalOfQuarters : GoodIn wsX9_quarter (wsV RX9 217 RX9 yX9_refusalOfQuarters wsX9_refusalOfQuarters) := goodIn_app (goodIn_of _ (by decide +kernel)) ggX9_quarter_X9_refusalOfQuarters
set_option maxRecDepth 20000 in
theorem ggX9_quarter_X2_note : GoodIn wsX9_quarter wsX2_note := goodIn_r _ [18, 19, 20, 21, 22, 23, 24, 25, 26, 27, 28, 29, 30, 31, 32, 33, 34, 35, 36, 123, 124, 125, 116, 117, 118, 119, 120, 121, 122] (by decide +kernel) (by decide +kernel)
set_option maxRecDepth 20000 in
theorem gX9_quarter_X2_note : GoodIn wsX9_quarter (wsV RX9 207 RX2 yX2_note wsX2_note) := goodIn_app (goodIn_of _ (by decide +kernel)) ggX9_quarter_X2_note
set_option maxRecDepth 20000 in
theorem ggX9_quarter_X7_passQuarter : GoodIn wsX9_quarter wsX7_passQuarter := goodIn_r _ [40, 41, 42, 33, 43, 32, 35, 36, 44, 45, 46, 25, 47, 27, 48, 49, 50, 51, 52, 53, 54, 55, 56, 57, 58, 59, 60, 61, 62, 63, 64, 65, 66, 67, 68, 69, 70, 71, 72, 73, 74, 75, 76, 77, 78, 79, 80, 81, 82, 83, 84, 85, 86, 87, 88, 116, 117, 118, 119, 120, 121, 122, 107, 108, 109, 110, 111, 112, 113, 114, 115] (by decide +kernel) (by decide +kernel)
set_option maxRecDepth 20000 in
theorem gX9_quarter_X7_passQuarter : GoodIn wsX9_quarter (wsV RX9 220 RX7 yX7_passQuarter wsX7_passQuarter) := goodIn_app (goodIn_of _ (by decide +kernel)) ggX9_quarter_X7_passQuarter
set_option maxRecDepth 20000 in
theorem ggX9_quarter_J6_bitCount_0f7a4 : GoodIn wsX9_quarter wsJ6_bitCount_0f7a4 := goodIn_r _ [92, 93, 94, 95] (by decide +kernel) (by decide +kernel)
set_option maxRecDepth 20000 in
theorem gX9_quarter_J6_bitCount_0f7a4 : GoodIn wsX9_quarter (va_wsS RX9 223 yJ6_bitCount_0f7a4 wsJ6_bitCount_0f7a4) := goodIn_app (goodIn_of _ (by decide +kernel)) ggX9_quarter_J6_bitCount_0f7a4
set_option maxRecDepth 20000 in
theorem ggX9_wed_X9_refusalOfPair : GoodIn wsX9_wed wsX9_refusalOfPair := goodIn_r _ [7, 8, 9, 2, 10, 11, 12, 13, 14, 15, 16, 17, 18, 19, 20, 21, 22, 23, 24, 25, 26, 95, 96, 97, 98, 99, 100, 101, 102, 103, 104, 105, 106, 107, 108, 109, 110, 111, 112, 113, 114, 115, 116, 117, 118, 119, 120, 121] (by decide +kernel) (by decide +kernel)
set_option maxRecDepth 20000 in
theorem gX9_wed_X9_refusalOfPair : GoodIn wsX9_wed (wsV RX9 228 RX9 yX9_refusalOfPair wsX9_refusalOfPair) := goodIn_app (goodIn_of _ (by decide +kernel)) ggX9_wed_X9_refusalOfPair
set_option maxRecDepth 20000 in
theorem ggX9_wed_X2_note : GoodIn wsX9_wed wsX2_note := goodIn_r _ [31, 32, 33, 34, 35, 36, 37, 38, 39, 40, 41, 42, 43, 44, 45, 46, 47, 48, 49, 122, 123, 124, 106, 107, 108, 109, 110, 111, 112] (by decide +kernel) (by decide +kernel)
set_option maxRecDepth 20000 in
theorem gX9_wed_X2_note : GoodIn wsX9_wed (wsV RX9 207 RX2 yX2_note wsX2_note) := goodIn_app (goodIn_of _ (by decide +kernel)) ggX9_wed_X2_note
set_option maxRecDepth 20000 in
theorem ggX9_wed_X7_unite : GoodIn wsX9_wed wsX7_unite := goodIn_r _ [53, 54, 55, 46, 47, 56, 57, 58, 38, 59, 40, 60, 61, 62, 63, 64, 65, 66, 67, 106, 107, 108, 109, 110, 111, 112, 113, 114, 115, 116, 117, 118, 119, 120, 121] (by decide +kernel) (by decide +kernel)
set_option maxRecDepth 20000 in
theorem gX9_wed_X7_unite : GoodIn wsX9_wed (wsV RX9 231 RX7 yX7_unite wsX7_unite) := goodIn_app (goodIn_of _ (by decide +kernel)) ggX9_wed_X7_unite
set_option maxRecDepth 20000 in
theorem ggX9_wed_X7_standingOf : GoodIn wsX9_wed wsX7_standingOf := goodIn_r _ [71, 54, 55, 72, 73, 74, 38, 75, 56, 57, 58, 59, 40, 76, 77, 78, 79, 46, 80, 81, 82, 83, 84, 85, 86, 87, 88, 89, 48, 90, 91, 92, 93, 94, 106, 107, 108, 109, 110, 111, 112, 113, 114, 115, 116, 117, 118, 119, 120, 121] (by decide +kernel) (by decide +kernel)
set_option maxRecDepth 20000 in
theorem gX9_wed_X7_standingOf : GoodIn wsX9_wed (wsV RX9 186 RX7 yX7_standingOf wsX7_standingOf) := goodIn_app (goodIn_of _ (by decide +kernel)) ggX9_wed_X7_standingOf
set_option maxRecDepth 20000 in
theorem ggX9_divorce_X8_isGirl : GoodIn wsX9_divorce wsX8_isGirl := goodIn_r _ [11, 12, 13, 14, 15, 10, 16, 17, 82, 83, 84, 85, 86, 87, 88, 89, 90] (by decide +kernel) (by decide +kernel)
set_option maxRecDepth 20000 in
theorem gX9_divorce_X8_isGirl : GoodIn wsX9_divorce (wsV RX9 176 RX8 yX8_isGirl wsX8_isGirl) := goodIn_app (goodIn_of _ (by decide +kernel)) ggX9_divorce_X8_isGirl
set_option maxRecDepth 20000 in
theorem ggX9_divorce_X8_hasPerson : GoodIn wsX9_divorce wsX8_hasPerson := goodIn_r _ [16, 17, 82, 83, 84, 85, 86, 87, 88, 89, 90] (by decide +kernel) (by decide +kernel)
set_option maxRecDepth 20000 in
theorem gX9_divorce_X8_hasPerson : GoodIn wsX9_divorce (wsV RX9 173 RX8 yX8_hasPerson wsX8_hasPerson) := goodIn_app (goodIn_of _ (by decide +kernel)) ggX9_divorce_X8_hasPerson
set_option maxRecDepth 20000 in
theorem ggX9_divorce_X2_note : GoodIn wsX9_divorce wsX2_note := goodIn_r _ [23, 24, 25, 26, 27, 28, 29, 30, 31, 32, 33, 34, 35, 36, 37, 38, 39, 40, 41, 91, 92, 93, 75, 76, 77, 78, 79, 80, 81] (by decide +kernel) (by decide +kernel)
set_option maxRecDepth 20000 in
theorem gX9_divorce_X2_note : GoodIn wsX9_divorce (wsV RX9 207 RX2 yX2_note wsX2_note) := goodIn_app (goodIn_of _ (by decide +kernel)) ggX9_divorce_X2_note
set_option maxRecDepth 20000 in
theorem ggX9_divorce_X7_part : GoodIn wsX9_divorce wsX7_part := goodIn_r _ [45, 46, 47, 38, 39, 48, 49, 50, 30, 51, 32, 52, 53, 54, 55, 56, 57, 58, 59, 75, 76, 77, 78, 79, 80, 81, 82, 83, 84, 85, 86, 87, 88, 89, 90] (by decide +kernel) (by decide +kernel)
set_option maxRecDepth 20000 in
theorem gX9_divorce_X7_part : GoodIn wsX9_divorce (wsV RX9 235 RX7 yX7_part wsX7_part) := goodIn_app (goodIn_of _ (by decide +kernel)) ggX9_divorce_X7_part
set_option maxRecDepth 20000 in
theorem ggX9_divorce_X7_owedTogether : GoodIn wsX9_divorce wsX7_owedTogether := goodIn_r _ [63, 46, 47, 48, 49, 50, 30, 51, 32, 75, 76, 77, 78, 79, 80, 81, 82, 83, 84, 85, 86, 87, 88, 89, 90] (by decide +kernel) (by decide +kernel)
set_option maxRecDepth 20000 in
theorem gX9_divorce_X7_owedTogether : GoodIn wsX9_divorce (wsV RX9 182 RX7 yX7_owedTogether wsX7_owedTogether) := goodIn_app (goodIn_of _ (by decide +kernel)) ggX9_divorce_X7_owedTogether
set_option maxRecDepth 20000 in
theorem ggX9_drift_X9_refusalOfQuarters : GoodIn wsX9_drift wsX9_refusalOfQuarters := goodIn_r _ [7, 8, 9, 10, 11, 2, 12, 13, 143, 144, 145, 146, 147, 148, 149, 150, 151, 152, 153, 154, 155, 156, 157, 158, 159, 160, 161, 162, 163, 164, 165, 166, 167, 168, 169] (by decide +kernel) (by decide +kernel)
set_option maxRecDepth 20000 in
theorem gX9_drift_X9_refusalOfQuarters : GoodIn wsX9_drift (wsV RX9 217 RX9 yX9_refusalOfQuarters wsX9_refusalOfQuarters) := goodIn_app (goodIn_of _ (by decide +kernel)) ggX9_drift_X9_refusalOfQuarters
set_option maxRecDepth 20000 in
theorem ggX9_drift_X2_note : GoodIn wsX9_drift wsX2_note := goodIn_r _ [18, 19, 20, 21, 22, 23, 24, 25, 26, 27, 28, 29, 30, 31, 32, 33, 34, 35, 36, 170, 171, 172, 163, 164, 165, 166, 167, 168, 169] (by decide +kernel) (by decide +kernel)
set_option maxRecDepth 20000 in
theorem gX9_drift_X2_note : GoodIn wsX9_drift (wsV RX9 207 RX2 yX2_note wsX2_note) := goodIn_app (goodIn_of _ (by decide +kernel)) ggX9_drift_X2_note
set_option maxRecDepth 20000 in
theorem ggX9_drift_X9_borrowByDraws : GoodIn wsX9_drift wsX9_borrowByDraws := goodIn_r _ [40, 9, 41, 42, 2, 43, 44, 45, 6, 46, 47, 48, 49, 50, 51, 52, 53, 54, 55, 56, 57, 58, 59, 60, 61, 62, 63, 64, 65, 66, 67, 68, 69, 25, 70, 32, 71, 72, 73, 74, 75, 34, 76, 77, 78, 79, 80, 81, 82, 83, 84, 35, 85, 86, 87, 88, 89, 90, 91, 92, 27, 93, 94, 95, 96, 97, 98, 99, 100, 143, 144, 145, 146, 147, 148, 149, 150, 151, 152, 153, 154, 155, 156, 157, 158, 159, 160, 161, 162, 163, 164, 165, 166, 167, 168, 169] (by decide +kernel) (by decide +kernel)
set_option maxRecDepth 20000 in
theorem gX9_drift_X9_borrowByDraws : GoodIn wsX9_drift (wsV RX9 238 RX9 yX9_borrowByDraws wsX9_borrowByDraws) := goodIn_app (goodIn_of _ (by decide +kernel)) ggX9_drift_X9_borrowByDraws
set_option maxRecDepth 20000 in
theorem ggX9_drift_X7_passQuarter : GoodIn wsX9_drift wsX7_passQuarter := goodIn_r _ [104, 75, 105, 33, 106, 32, 35, 36, 89, 90, 91, 25, 92, 27, 107, 108, 109, 55, 110, 111, 112, 98, 99, 100, 93, 94, 95, 96, 97, 81, 82, 83, 84, 113, 114, 115, 116, 117, 118, 119, 120, 121, 122, 123, 124, 125, 126, 127, 128, 129, 130, 131, 132, 133, 134, 163, 164, 165, 166, 167, 168, 169, 154, 155, 156, 157, 158, 159, 160, 161, 162] (by decide +kernel) (by decide +kernel)
set_option maxRecDepth 20000 in
theorem gX9_drift_X7_passQuarter : GoodIn wsX9_drift (wsV RX9 220 RX7 yX7_passQuarter wsX7_passQuarter) := goodIn_app (goodIn_of _ (by decide +kernel)) ggX9_drift_X7_passQuarter
set_option maxRecDepth 20000 in
theorem ggX9_drift_X7_owedInAll : GoodIn wsX9_drift wsX7_owedInAll := goodIn_r _ [138, 75, 105, 139, 140, 141, 25, 142, 106, 89, 90, 91, 92, 27, 163, 164, 165, 166, 167, 168, 169, 154, 155, 156, 157, 158, 159, 160, 161, 162] (by decide +kernel) (by decide +kernel)
set_option maxRecDepth 20000 in
theorem gX9_drift_X7_owedInAll : GoodIn wsX9_drift (wsV RX9 148 RX7 yX7_owedInAll wsX7_owedInAll) := goodIn_app (goodIn_of _ (by decide +kernel)) ggX9_drift_X7_owedInAll
set_option maxRecDepth 20000 in
theorem ggX9_undo_X2_restore : GoodIn wsX9_undo wsX2_restore := goodIn_r _ [11, 12, 13, 14, 15, 16, 17, 18, 19, 20, 21, 22, 23, 24, 25, 26, 27, 28, 29, 41, 42, 43, 44, 45, 46, 47, 48, 49, 50] (by decide +kernel) (by decide +kernel)
set_option maxRecDepth 20000 in
theorem gX9_undo_X2_restore : GoodIn wsX9_undo (wsV RX9 241 RX2 yX2_restore wsX2_restore) := goodIn_app (goodIn_of _ (by decide +kernel)) ggX9_undo_X2_restore
set_option maxRecDepth 20000 in
theorem ggX9_joined_X9_refusalOfPair : GoodIn wsX9_joined wsX9_refusalOfPair := goodIn_r _ [6, 7, 8, 1, 9, 10, 11, 12, 13, 14, 15, 16, 17, 18, 19, 20, 21, 22, 23, 24, 25, 63, 64, 65, 66, 67, 68, 69, 70, 71, 72, 73, 74, 75, 76, 77, 78, 79, 80, 81, 82, 83, 84, 85, 86, 87, 88, 89] (by decide +kernel) (by decide +kernel)
set_option maxRecDepth 20000 in
theorem gX9_joined_X9_refusalOfPair : GoodIn wsX9_joined (wsV RX9 228 RX9 yX9_refusalOfPair wsX9_refusalOfPair) := goodIn_app (goodIn_of _ (by decide +kernel)) ggX9_joined_X9_refusalOfPair
set_option maxRecDepth 20000 in
theorem ggX9_joined_X7_standingJoined : GoodIn wsX9_joined wsX7_standingJoined := goodIn_r _ [30, 31, 32, 33, 34, 35, 36, 37, 38, 39, 29, 40, 41, 42, 43, 44, 45, 46, 47, 48, 49, 50, 51, 52, 53, 54, 55, 56, 57, 58, 59, 60, 61, 62, 74, 75, 76, 77, 78, 79, 80, 81, 82, 83, 84, 85, 86, 87, 88, 89] (by decide +kernel) (by decide +kernel)
set_option maxRecDepth 20000 in
theorem gX9_joined_X7_standingJoined : GoodIn wsX9_joined (wsV RX9 245 RX7 yX7_standingJoined wsX7_standingJoined) := goodIn_app (goodIn_of _ (by decide +kernel)) ggX9_joined_X7_standingJoined
set_option maxRecDepth 20000 in
theorem ggX9_least_X8_hasPerson : GoodIn wsX9_least wsX8_hasPerson := goodIn_r _ [10, 11, 95, 96, 97, 98, 99, 100, 101, 102, 103] (by decide +kernel) (by decide +kernel)
set_option maxRecDepth 20000 in
theorem gX9_least_X8_hasPerson : GoodIn wsX9_least (wsV RX9 173 RX8 yX8_hasPerson wsX8_hasPerson) := goodIn_app (goodIn_of _ (by decide +kernel)) ggX9_least_X8_hasPerson
set_option maxRecDepth 20000 in
theorem ggX9_least_X7_isWedMan : GoodIn wsX9_least wsX7_isWedMan := goodIn_r _ [16, 17, 18, 19, 20, 21, 9, 22, 23, 24, 7, 8, 10, 11, 104, 105, 106, 107, 108, 109, 110, 95, 96, 97, 98, 99, 100, 101, 102, 103] (by decide +kernel) (by decide +kernel)
set_option maxRecDepth 20000 in
theorem gX9_least_X7_isWedMan : GoodIn wsX9_least (wsV RX9 248 RX7 yX7_isWedMan wsX7_isWedMan) := goodIn_app (goodIn_of _ (by decide +kernel)) ggX9_least_X7_isWedMan
set_option maxRecDepth 20000 in
theorem ggX9_least_X7_cheapestSet : GoodIn wsX9_least wsX7_cheapestSet := goodIn_r _ [28, 17, 29, 30, 31, 32, 33, 15, 34, 35, 36, 37, 38, 39, 40, 41, 42, 43, 44, 45, 46, 47, 48, 49, 50, 51, 52, 53, 54, 55, 56, 57, 58, 59, 60, 61, 62, 63, 64, 65, 13, 14, 16, 18, 19, 20, 21, 9, 22, 23, 24, 7, 8, 10, 11, 66, 67, 68, 69, 70, 71, 72, 73, 74, 75, 76, 77, 78, 79, 80, 81, 82, 104, 105, 106, 107, 108, 109, 110, 95, 96, 97, 98, 99, 100, 101, 102, 103] (by decide +kernel) (by decide +kernel)
set_option maxRecDepth 20000 in
theorem gX9_least_X7_cheapestSet : GoodIn wsX9_least (wsV RX9 251 RX7 yX7_cheapestSet wsX7_cheapestSet) := goodIn_app (goodIn_of _ (by decide +kernel)) ggX9_least_X7_cheapestSet
set_option maxRecDepth 20000 in
theorem ggX9_least_X7_coinsFor : GoodIn wsX9_least wsX7_coinsFor := goodIn_r _ [82, 17, 29, 35, 40, 41, 42, 15, 43, 44, 104, 105, 106, 107, 108, 109, 110, 95, 96, 97, 98, 99, 100, 101, 102, 103] (by decide +kernel) (by decide +kernel)
set_option maxRecDepth 20000 in
theorem gX9_least_X7_coinsFor : GoodIn wsX9_least (wsV RX9 254 RX7 yX7_coinsFor wsX7_coinsFor) := goodIn_app (goodIn_of _ (by decide +kernel)) ggX9_least_X7_coinsFor
set_option maxRecDepth 20000 in
theorem ggX9_plan_X8_hasBoth : GoodIn wsX9_plan wsX8_hasBoth := goodIn_r _ [12, 13, 14, 15, 11, 16, 17, 18, 19, 20, 21, 22, 82, 83, 84, 85, 86, 87, 88, 89, 90] (by decide +kernel) (by decide +kernel)
set_option maxRecDepth 20000 in
theorem gX9_plan_X8_hasBoth : GoodIn wsX9_plan (wsV RX9 192 RX8 yX8_hasBoth wsX8_hasBoth) := goodIn_app (goodIn_of _ (by decide +kernel)) ggX9_plan_X8_hasBoth
set_option maxRecDepth 20000 in
theorem ggX9_plan_X7_hasFailed : GoodIn wsX9_plan wsX7_hasFailed := goodIn_r _ [27, 28, 91, 92, 93, 94, 95, 96, 97] (by decide +kernel) (by decide +kernel)
set_option maxRecDepth 20000 in
theorem gX9_plan_X7_hasFailed : GoodIn wsX9_plan (wsV RX9 257 RX7 yX7_hasFailed wsX7_hasFailed) := goodIn_app (goodIn_of _ (by decide +kernel)) ggX9_plan_X7_hasFailed
set_option maxRecDepth 20000 in
theorem ggX9_plan_X7_owedTo : GoodIn wsX9_plan wsX7_owedTo := goodIn_r _ [32, 33, 91, 92, 93, 94, 95, 96, 97] (by decide +kernel) (by decide +kernel)
set_option maxRecDepth 20000 in
theorem gX9_plan_X7_owedTo : GoodIn wsX9_plan (wsV RX9 196 RX7 yX7_owedTo wsX7_owedTo) := goodIn_app (goodIn_of _ (by decide +kernel)) ggX9_plan_X7_owedTo
set_option maxRecDepth 20000 in
theorem ggX9_plan_X5_work : GoodIn wsX9_plan wsX5_work := goodIn_r _ [38, 39, 40, 41, 42, 43, 44, 45, 46, 47, 48, 49, 50, 37, 51, 52, 53, 54, 55, 56, 57, 58, 11, 59, 60, 61, 62, 63, 64, 65, 66, 67, 79, 80, 81, 82, 83, 84, 85, 86, 87, 88, 89, 90] (by decide +kernel) (by decide +kernel)
set_option maxRecDepth 20000 in
theorem gX9_plan_X5_work : GoodIn wsX9_plan (wsV RX9 260 RX5 yX5_work wsX5_work) := goodIn_app (goodIn_of _ (by decide +kernel)) ggX9_plan_X5_work
set_option maxRecDepth 20000 in
theorem ggX9_matches_X8_isGirl : GoodIn wsX9_matches wsX8_isGirl := goodIn_r _ [10, 11, 12, 13, 14, 9, 15, 16, 97, 98, 99, 100, 101, 102, 103, 104, 105] (by decide +kernel) (by decide +kernel)
set_option maxRecDepth 20000 in
theorem gX9_matches_X8_isGirl : GoodIn wsX9_matches (wsV RX9 176 RX8 yX8_isGirl wsX8_isGirl) := goodIn_app (goodIn_of _ (by decide +kernel)) ggX9_matches_X8_isGirl
set_option maxRecDepth 20000 in
theorem ggX9_matches_X4_pairAll : GoodIn wsX9_matches wsX4_pairAll := goodIn_r _ [21, 22, 23, 24, 25, 26, 27, 28, 29, 30, 31, 32, 20, 33, 34, 35, 36, 37, 7, 8, 9, 10, 11, 12, 13, 14, 15, 16, 38, 39, 40, 41, 42, 43, 44, 45, 46, 47, 48, 49, 50, 51, 52, 53, 54, 55, 56, 57, 58, 59, 60, 61, 62, 63, 64, 65, 66, 67, 68, 69, 70, 71, 72, 73, 74, 75, 76, 77, 78, 79, 80, 81, 82, 83, 84, 96, 106, 107, 108, 109, 110, 111, 112, 97, 98, 99, 100, 101, 102, 103, 104, 105] (by decide +kernel) (by decide +kernel)
set_option maxRecDepth 20000 in
theorem gX9_matches_X4_pairAll : GoodIn wsX9_matches (wsV RX9 270 RX4 yX4_pairAll wsX4_pairAll) := goodIn_app (goodIn_of _ (by decide +kernel)) ggX9_matches_X4_pairAll
set_option maxRecDepth 20000 in
theorem ggX9_failing_X7_take : GoodIn wsX9_failing wsX7_take := goodIn_r _ [7, 8, 9, 10, 11, 12, 13, 14, 15, 16, 17, 81, 82, 83, 84, 85, 86, 87] (by decide +kernel) (by decide +kernel)
set_option maxRecDepth 20000 in
theorem gX9_failing_X7_take : GoodIn wsX9_failing (wsV RX9 103 RX7 yX7_take wsX7_take) := goodIn_app (goodIn_of _ (by decide +kernel)) ggX9_failing_X7_take
set_option maxRecDepth 20000 in
theorem ggX9_failing_X7_passQuarter : GoodIn wsX9_failing wsX7_passQuarter := goodIn_r _ [21, 22, 23, 14, 24, 13, 16, 17, 25, 26, 27, 6, 28, 8, 29, 30, 31, 32, 33, 34, 35, 36, 37, 38, 39, 40, 41, 42, 43, 44, 45, 46, 47, 48, 49, 50, 51, 52, 53, 54, 55, 56, 57, 58, 59, 60, 61, 62, 63, 64, 65, 66, 67, 68, 69, 81, 82, 83, 84, 85, 86, 87, 88, 89, 90, 91, 92, 93, 94, 95, 96] (by decide +kernel) (by decide +kernel)
set_option maxRecDepth 20000 in
theorem gX9_failing_X7_passQuarter : GoodIn wsX9_failing (wsV RX9 220 RX7 yX7_passQuarter wsX7_passQuarter) := goodIn_app (goodIn_of _ (by decide +kernel)) ggX9_failing_X7_passQuarter
set_option maxRecDepth 20000 in
theorem ggX9_run_X7_take : GoodIn wsX9_run wsX7_take := goodIn_r _ [9, 10, 11, 12, 13, 14, 15, 16, 17, 18, 19, 83, 84, 85, 86, 87, 88, 89] (by decide +kernel) (by decide +kernel)
set_option maxRecDepth 20000 in
theorem gX9_run_X7_take : GoodIn wsX9_run (wsV RX9 103 RX7 yX7_take wsX7_take) := goodIn_app (goodIn_of _ (by decide +kernel)) ggX9_run_X7_take
set_option maxRecDepth 20000 in
theorem ggX9_run_X7_passQuarter : GoodIn wsX9_run wsX7_passQuarter := goodIn_r _ [23, 24, 25, 16, 26, 15, 18, 19, 27, 28, 29, 8, 30, 10, 31, 32, 33, 34, 35, 36, 37, 38, 39, 40, 41, 42, 43, 44, 45, 46, 47, 48, 49, 50, 51, 52, 53, 54, 55, 56, 57, 58, 59, 60, 61, 62, 63, 64, 65, 66, 67, 68, 69, 70, 71, 83, 84, 85, 86, 87, 88, 89, 90, 91, 92, 93, 94, 95, 96, 97, 98] (by decide +kernel) (by decide +kernel)
set_option maxRecDepth 20000 in
theorem gX9_run_X7_passQuarter : GoodIn wsX9_run (wsV RX9 220 RX7 yX7_passQuarter wsX7_passQuarter) := goodIn_app (goodIn_of _ (by decide +kernel)) ggX9_run_X7_passQuarter
set_option maxRecDepth 20000 in
theorem ggX9_credit_X8_hasBoth : GoodIn wsX9_credit wsX8_hasBoth := goodIn_r _ [14, 15, 16, 17, 13, 18, 19, 20, 21, 22, 23, 24, 81, 82, 83, 84, 85, 86, 87, 88, 89] (by decide +kernel) (by decide +kernel)
set_option maxRecDepth 20000 in
theorem gX9_credit_X8_hasBoth : GoodIn wsX9_credit (wsV RX9 192 RX8 yX8_hasBoth wsX8_hasBoth) := goodIn_app (goodIn_of _ (by decide +kernel)) ggX9_credit_X8_hasBoth
set_option maxRecDepth 20000 in
theorem ggX9_credit_X7_owedTo : GoodIn wsX9_credit wsX7_owedTo := goodIn_r _ [29, 30, 74, 75, 76, 77, 78, 79, 80] (by decide +kernel) (by decide +kernel)
set_option maxRecDepth 20000 in
theorem gX9_credit_X7_owedTo : GoodIn wsX9_credit (wsV RX9 196 RX7 yX7_owedTo wsX7_owedTo) := goodIn_app (goodIn_of _ (by decide +kernel)) ggX9_credit_X7_owedTo
set_option maxRecDepth 20000 in
theorem ggX9_credit_X7_mayBorrow : GoodIn wsX9_credit wsX7_mayBorrow := goodIn_r _ [34, 35, 36, 37, 38, 28, 39, 40, 41, 42, 43, 44, 13, 45, 46, 15, 16, 17, 18, 19, 47, 48, 49, 50, 51, 74, 75, 76, 77, 78, 79, 80, 81, 82, 83, 84, 85, 86, 87, 88, 89] (by decide +kernel) (by decide +kernel)
set_option maxRecDepth 20000 in
theorem gX9_credit_X7_mayBorrow : GoodIn wsX9_credit (wsV RX9 202 RX7 yX7_mayBorrow wsX7_mayBorrow) := goodIn_app (goodIn_of _ (by decide +kernel)) ggX9_credit_X7_mayBorrow
set_option maxRecDepth 20000 in
theorem ggX9_credit_X7_hasInsulted : GoodIn wsX9_credit wsX7_hasInsulted := goodIn_r _ [55, 56, 74, 75, 76, 77, 78, 79, 80] (by decide +kernel) (by decide +kernel)
set_option maxRecDepth 20000 in
theorem gX9_credit_X7_hasInsulted : GoodIn wsX9_credit (wsV RX9 282 RX7 yX7_hasInsulted wsX7_hasInsulted) := goodIn_app (goodIn_of _ (by decide +kernel)) ggX9_credit_X7_hasInsulted
set_option maxRecDepth 20000 in
theorem ggX9_credit_X7_moodBy : GoodIn wsX9_credit wsX7_moodBy := goodIn_r _ [60, 40, 61, 62, 47, 48, 49, 28, 50, 51, 74, 75, 76, 77, 78, 79, 80, 81, 82, 83, 84, 85, 86, 87, 88, 89] (by decide +kernel) (by decide +kernel)
set_option maxRecDepth 20000 in
theorem gX9_credit_X7_moodBy : GoodIn wsX9_credit (wsV RX9 285 RX7 yX7_moodBy wsX7_moodBy) := goodIn_app (goodIn_of _ (by decide +kernel)) ggX9_credit_X7_moodBy
set_option maxRecDepth 20000 in
theorem ggX9_card_X8_hasBoth : GoodIn wsX9_card wsX8_hasBoth := goodIn_r _ [11, 12, 13, 14, 10, 15, 16, 17, 18, 19, 20, 21, 50, 51, 52, 53, 54, 55, 56, 57, 58] (by decide +kernel) (by decide +kernel)
set_option maxRecDepth 20000 in
theorem gX9_card_X8_hasBoth : GoodIn wsX9_card (wsV RX9 192 RX8 yX8_hasBoth wsX8_hasBoth) := goodIn_app (goodIn_of _ (by decide +kernel)) ggX9_card_X8_hasBoth
set_option maxRecDepth 20000 in
theorem ggX9_card_X1_add : GoodIn wsX9_card wsX1_add := goodIn_r _ [26, 27, 28, 29, 30, 31, 43, 44, 45, 46, 47, 48, 49] (by decide +kernel) (by decide +kernel)
set_option maxRecDepth 20000 in
theorem gX9_card_X1_add : GoodIn wsX9_card (wsV RX9 293 RX1 yX1_add wsX1_add) := goodIn_app (goodIn_of _ (by decide +kernel)) ggX9_card_X1_add
set_option maxRecDepth 20000 in
theorem ggX9_had_X8_hasBoth : GoodIn wsX9_had wsX8_hasBoth := goodIn_r _ [10, 11, 12, 13, 9, 14, 15, 16, 17, 18, 19, 20, 81, 82, 83, 84, 85, 86, 87, 88, 89] (by decide +kernel) (by decide +kernel)
set_option maxRecDepth 20000 in
theorem gX9_had_X8_hasBoth : GoodIn wsX9_had (wsV RX9 192 RX8 yX8_hasBoth wsX8_hasBoth) := goodIn_app (goodIn_of _ (by decide +kernel)) ggX9_had_X8_hasBoth
set_option maxRecDepth 20000 in
theorem ggX9_had_X1_sift : GoodIn wsX9_had wsX1_sift := goodIn_r _ [25, 26, 27, 28, 29, 30, 24, 31, 32, 33, 34, 35, 36, 37, 38, 39, 40, 41, 42, 9, 43, 44, 45, 46, 47, 48, 49, 50, 51, 52, 53, 54, 74, 75, 76, 77, 78, 79, 80, 81, 82, 83, 84, 85, 86, 87, 88, 89] (by decide +kernel) (by decide +kernel)
set_option maxRecDepth 20000 in
theorem gX9_had_X1_sift : GoodIn wsX9_had (wsV RX9 296 RX1 yX1_sift wsX1_sift) := goodIn_app (goodIn_of _ (by decide +kernel)) ggX9_had_X1_sift
set_option maxRecDepth 20000 in
theorem ggX9_had_X1_leastSum : GoodIn wsX9_had wsX1_leastSum := goodIn_r _ [58, 26, 27, 74, 75, 76, 77, 78, 79, 80] (by decide +kernel) (by decide +kernel)
set_option maxRecDepth 20000 in
theorem gX9_had_X1_leastSum : GoodIn wsX9_had (wsV RX9 303 RX1 yX1_leastSum wsX1_leastSum) := goodIn_app (goodIn_of _ (by decide +kernel)) ggX9_had_X1_leastSum
set_option maxRecDepth 20000 in
theorem ggX9_had_X1_mostSum : GoodIn wsX9_had wsX1_mostSum := goodIn_r _ [62, 26, 27, 74, 75, 76, 77, 78, 79, 80] (by decide +kernel) (by decide +kernel)
set_option maxRecDepth 20000 in
theorem gX9_had_X1_mostSum : GoodIn wsX9_had (wsV RX9 306 RX1 yX1_mostSum wsX1_mostSum) := goodIn_app (goodIn_of _ (by decide +kernel)) ggX9_had_X1_mostSum
set_option maxRecDepth 20000 in
theorem ggX9_lookAt_X8_hasBoth : GoodIn wsX9_lookAt wsX8_hasBoth := goodIn_r _ [8, 9, 10, 11, 7, 12, 13, 14, 15, 16, 17, 18, 71, 72, 73, 74, 75, 76, 77, 78, 79] (by decide +kernel) (by decide +kernel)
set_option maxRecDepth 20000 in
theorem gX9_lookAt_X8_hasBoth : GoodIn wsX9_lookAt (wsV RX9 192 RX8 yX8_hasBoth wsX8_hasBoth) := goodIn_app (goodIn_of _ (by decide +kernel)) ggX9_lookAt_X8_hasBoth
set_option maxRecDepth 20000 in
theorem ggX9_lookAt_X1_sift : GoodIn wsX9_lookAt wsX1_sift := goodIn_r _ [23, 24, 25, 26, 27, 28, 22, 29, 30, 31, 32, 33, 34, 35, 36, 37, 38, 39, 40, 7, 41, 42, 43, 44, 45, 46, 47, 48, 49, 50, 51, 52, 80, 81, 82, 83, 84, 85, 86, 71, 72, 73, 74, 75, 76, 77, 78, 79] (by decide +kernel) (by decide +kernel)
set_option maxRecDepth 20000 in
theorem gX9_lookAt_X1_sift : GoodIn wsX9_lookAt (wsV RX9 296 RX1 yX1_sift wsX1_sift) := goodIn_app (goodIn_of _ (by decide +kernel)) ggX9_lookAt_X1_sift
set_option maxRecDepth 20000 in
theorem ggX9_lookAt_X1_bestLook : GoodIn wsX9_lookAt wsX1_bestLook := goodIn_r _ [56, 24, 25, 57, 58, 45, 59, 47, 48, 49, 7, 50, 51, 52, 38, 39, 40, 41, 42, 43, 44, 46, 80, 81, 82, 83, 84, 85, 86, 71, 72, 73, 74, 75, 76, 77, 78, 79] (by decide +kernel) (by decide +kernel)
set_option maxRecDepth 20000 in
theorem gX9_lookAt_X1_bestLook : GoodIn wsX9_lookAt (wsV RX9 309 RX1 yX1_bestLook wsX1_bestLook) := goodIn_app (goodIn_of _ (by decide +kernel)) ggX9_lookAt_X1_bestLook
set_option maxRecDepth 20000 in
theorem ggX9_write_X8_hasPerson : GoodIn wsX9_write wsX8_hasPerson := goodIn_r _ [11, 12, 35, 36, 37, 38, 39, 40, 41, 42, 43] (by decide +kernel) (by decide +kernel)
set_option maxRecDepth 20000 in
theorem gX9_write_X8_hasPerson : GoodIn wsX9_write (wsV RX9 173 RX8 yX8_hasPerson wsX8_hasPerson) := goodIn_app (goodIn_of _ (by decide +kernel)) ggX9_write_X8_hasPerson
set_option maxRecDepth 20000 in
theorem ggX9_write_X0_add : GoodIn wsX9_write wsX0_add := goodIn_r _ [17, 18, 19, 20, 32, 33, 34] (by decide +kernel) (by decide +kernel)
set_option maxRecDepth 20000 in
theorem gX9_write_X0_add : GoodIn wsX9_write (wsV RX9 313 RX0 yX0_add wsX0_add) := goodIn_app (goodIn_of _ (by decide +kernel)) ggX9_write_X0_add
set_option maxRecDepth 20000 in
theorem ggX9_judge_X0_firstWrong : GoodIn wsX9_judge wsX0_firstWrong := goodIn_r _ [7, 8, 9, 10, 11, 12, 13, 14, 15, 16, 17, 18, 19, 20, 21, 22, 23, 24, 25, 26, 27, 28, 29, 30, 31, 32, 33, 34, 35, 36, 37, 38, 39, 40, 41, 42, 43, 44, 45, 46, 47, 59, 60, 61, 62, 63, 64, 65, 66, 67, 68, 69, 70, 71, 72, 73, 74, 75, 76, 77] (by decide +kernel) (by decide +kernel)
set_option maxRecDepth 20000 in
theorem gX9_judge_X0_firstWrong : GoodIn wsX9_judge (wsV RX9 315 RX0 yX0_firstWrong wsX0_firstWrong) := goodIn_app (goodIn_of _ (by decide +kernel)) ggX9_judge_X0_firstWrong
set_option maxRecDepth 20000 in
theorem ggX9_keep_X7_take : GoodIn wsX9_keep wsX7_take := goodIn_r _ [13, 14, 15, 16, 17, 18, 19, 20, 21, 22, 23, 44, 45, 46, 47, 48, 49, 50] (by decide +kernel) (by decide +kernel)
set_option maxRecDepth 20000 in
theorem gX9_keep_X7_take : GoodIn wsX9_keep (wsV RX9 103 RX7 yX7_take wsX7_take) := goodIn_app (goodIn_of _ (by decide +kernel)) ggX9_keep_X7_take
set_option maxRecDepth 20000 in
theorem ggX9_keep_X2_forget : GoodIn wsX9_keep wsX2_forget := goodIn_r _ [28, 29, 51, 52, 53] (by decide +kernel) (by decide +kernel)
set_option maxRecDepth 20000 in
theorem gX9_keep_X2_forget : GoodIn wsX9_keep (wsV RX9 106 RX2 yX2_forget wsX2_forget) := goodIn_app (goodIn_of _ (by decide +kernel)) ggX9_keep_X2_forget
set_option maxRecDepth 20000 in
theorem ggX9_goBack_X7_take : GoodIn wsX9_goBack wsX7_take := goodIn_r _ [14, 15, 16, 17, 18, 19, 20, 21, 22, 23, 24, 45, 46, 47, 48, 49, 50, 51] (by decide +kernel) (by decide +kernel)
set_option maxRecDepth 20000 in
theorem gX9_goBack_X7_take : GoodIn wsX9_goBack (wsV RX9 103 RX7 yX7_take wsX7_take) := goodIn_app (goodIn_of _ (by decide +kernel)) ggX9_goBack_X7_take
set_option maxRecDepth 20000 in
theorem ggX9_goBack_X2_forget : GoodIn wsX9_goBack wsX2_forget := goodIn_r _ [29, 30, 52, 53, 54] (by decide +kernel) (by decide +kernel)
set_option maxRecDepth 20000 in
theorem gX9_goBack_X2_forget : GoodIn wsX9_goBack (wsV RX9 106 RX2 yX2_forget wsX2_forget) := goodIn_app (goodIn_of _ (by decide +kernel)) ggX9_goBack_X2_forget
set_option maxRecDepth 20000 in
theorem ggX9_refusalOfPair_X8_isGirl : GoodIn wsX9_refusalOfPair wsX8_isGirl := goodIn_r _ [10, 11, 12, 13, 14, 9, 15, 16, 39, 40, 41, 42, 43, 44, 45, 46, 47] (by decide +kernel) (by decide +kernel)
set_option maxRecDepth 20000 in
theorem gX9_refusalOfPair_X8_isGirl : GoodIn wsX9_refusalOfPair (wsV RX9 176 RX8 yX8_isGirl wsX8_isGirl) := goodIn_app (goodIn_of _ (by decide +kernel)) ggX9_refusalOfPair_X8_isGirl
set_option maxRecDepth 20000 in
theorem ggX9_refusalOfPair_X8_isMan : GoodIn wsX9_refusalOfPair wsX8_isMan := goodIn_r _ [20, 11, 12, 13, 14, 9, 15, 16, 39, 40, 41, 42, 43, 44, 45, 46, 47] (by decide +kernel) (by decide +kernel)
set_option maxRecDepth 20000 in
theorem gX9_refusalOfPair_X8_isMan : GoodIn wsX9_refusalOfPair (wsV RX9 320 RX8 yX8_isMan wsX8_isMan) := goodIn_app (goodIn_of _ (by decide +kernel)) ggX9_refusalOfPair_X8_isMan
set_option maxRecDepth 20000 in
theorem ggX9_borrowByDraws_X9_drawOf : GoodIn wsX9_borrowByDraws wsX9_drawOf := goodIn_r _ [9, 10, 11, 12, 13, 14, 69, 70, 71, 72, 73, 74, 75, 76, 77, 78, 79] (by decide +kernel) (by decide +kernel)
set_option maxRecDepth 20000 in
theorem gX9_borrowByDraws_X9_drawOf : GoodIn wsX9_borrowByDraws (wsV RX9 330 RX9 yX9_drawOf wsX9_drawOf) := goodIn_app (goodIn_of _ (by decide +kernel)) ggX9_borrowByDraws_X9_drawOf
set_option maxRecDepth 20000 in
theorem ggX9_borrowByDraws_X8_hasBoth : GoodIn wsX9_borrowByDraws wsX8_hasBoth := goodIn_r _ [19, 20, 21, 22, 18, 23, 24, 25, 26, 27, 28, 29, 80, 81, 82, 83, 84, 85, 86, 87, 88] (by decide +kernel) (by decide +kernel)
set_option maxRecDepth 20000 in
theorem gX9_borrowByDraws_X8_hasBoth : GoodIn wsX9_borrowByDraws (wsV RX9 192 RX8 yX8_hasBoth wsX8_hasBoth) := goodIn_app (goodIn_of _ (by decide +kernel)) ggX9_borrowByDraws_X8_hasBoth
set_option maxRecDepth 20000 in
theorem ggX9_borrowByDraws_X7_mayBorrow : GoodIn wsX9_borrowByDraws wsX7_mayBorrow := goodIn_r _ [34, 35, 36, 37, 38, 33, 39, 40, 41, 42, 43, 44, 18, 45, 46, 20, 21, 22, 23, 24, 47, 48, 49, 50, 51, 89, 90, 91, 92, 93, 94, 95, 80, 81, 82, 83, 84, 85, 86, 87, 88] (by decide +kernel) (by decide +kernel)
set_option maxRecDepth 20000 in
theorem gX9_borrowByDraws_X7_mayBorrow : GoodIn wsX9_borrowByDraws (wsV RX9 202 RX7 yX7_mayBorrow wsX7_mayBorrow) := goodIn_app (goodIn_of _ (by decide +kernel)) ggX9_borrowByDraws_X7_mayBorrow
set_option maxRecDepth 20000 in
theorem ggX9_borrowByDraws_X7_lend : GoodIn wsX9_borrowByDraws wsX7_lend := goodIn_r _ [55, 35, 56, 57, 58, 33, 59, 60, 61, 62, 63, 64, 65, 66, 67, 68, 89, 90, 91, 92, 93, 94, 95] (by decide +kernel) (by decide +kernel)
set_option maxRecDepth 20000 in
theorem gX9_borrowByDraws_X7_lend : GoodIn wsX9_borrowByDraws (wsV RX9 210 RX7 yX7_lend wsX7_lend) := goodIn_app (goodIn_of _ (by decide +kernel)) ggX9_borrowByDraws_X7_lend
