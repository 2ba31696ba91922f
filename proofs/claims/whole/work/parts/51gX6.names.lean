set_option maxRecDepth 20000 in
theorem ggX6_init_X8_init : GoodIn wsX6_init wsX8_init := goodIn_r _ [16, 17, 2, 3, 12, 18, 19, 20, 30, 31, 32, 33, 34, 35, 36, 37, 38] (by decide +kernel) (by decide +kernel)
set_option maxRecDepth 20000 in
theorem gX6_init_X8_init_n11 : GoodIn wsX6_init (wsX8_init) := ggX6_init_X8_init
set_option maxRecDepth 20000 in
theorem ggX6_init_X7_init : GoodIn wsX6_init wsX7_init := goodIn_r _ [23, 24, 2, 3, 12, 25, 26, 27, 28, 29, 47, 48, 49, 50, 51, 52, 53] (by decide +kernel) (by decide +kernel)
set_option maxRecDepth 20000 in
theorem gX6_init_X7_init : GoodIn wsX6_init (wsX7_init) := ggX6_init_X7_init
set_option maxRecDepth 20000 in
theorem ggX6_readAll_X8_clear : GoodIn wsX6_readAll wsX8_clear := goodIn_r _ [12, 13, 14, 15, 16, 17, 18, 97, 98, 99, 100, 101, 102, 103, 104, 105] (by decide +kernel) (by decide +kernel)
set_option maxRecDepth 20000 in
theorem gX6_readAll_X8_clear : GoodIn wsX6_readAll (wsV RX6 38 RX8 yX8_clear wsX8_clear) := goodIn_app (goodIn_of _ (by decide +kernel)) ggX6_readAll_X8_clear
set_option maxRecDepth 20000 in
theorem ggX6_readAll_X7_clear : GoodIn wsX6_readAll wsX7_clear := goodIn_r _ [23, 24, 25, 26, 27, 28, 29, 106, 107, 108, 109, 110, 111, 112] (by decide +kernel) (by decide +kernel)
set_option maxRecDepth 20000 in
theorem gX6_readAll_X7_clear : GoodIn wsX6_readAll (wsV RX6 41 RX7 yX7_clear wsX7_clear) := goodIn_app (goodIn_of _ (by decide +kernel)) ggX6_readAll_X7_clear
set_option maxRecDepth 20000 in
theorem ggX6_readAll_X6_nextSign : GoodIn wsX6_readAll wsX6_nextSign := goodIn_r _ [34, 5, 7, 35, 89, 90, 91, 92, 93, 94, 95, 96] (by decide +kernel) (by decide +kernel)
set_option maxRecDepth 20000 in
theorem gX6_readAll_X6_nextSign : GoodIn wsX6_readAll (wsV RX6 48 RX6 yX6_nextSign wsX6_nextSign) := goodIn_app (goodIn_of _ (by decide +kernel)) ggX6_readAll_X6_nextSign
set_option maxRecDepth 20000 in
theorem ggX6_readAll_X6_readInterest : GoodIn wsX6_readAll wsX6_readInterest := goodIn_r _ [39, 5, 1, 40, 41, 30, 31, 32, 33, 34, 7, 35, 42, 43, 44, 45, 3, 4, 46, 47, 48, 49, 50, 51, 52, 53, 54, 55, 56, 57, 89, 90, 91, 92, 93, 94, 95, 96, 97, 98, 99, 100, 101, 102, 103, 104, 105] (by decide +kernel) (by decide +kernel)
set_option maxRecDepth 20000 in
theorem gX6_readAll_X6_readInterest : GoodIn wsX6_readAll (wsV RX6 56 RX6 yX6_readInterest wsX6_readInterest) := goodIn_app (goodIn_of _ (by decide +kernel)) ggX6_readAll_X6_readInterest
set_option maxRecDepth 20000 in
theorem ggX6_readAll_X6_readOthers : GoodIn wsX6_readAll wsX6_readOthers := goodIn_r _ [61, 3, 30, 31, 32, 33, 34, 5, 7, 35, 62, 63, 64, 65, 66, 67, 68, 69, 1, 70, 71, 2, 72, 73, 74, 50, 75, 42, 43, 44, 45, 4, 46, 47, 48, 49, 51, 52, 53, 54, 55, 56, 57, 76, 77, 78, 79, 80, 81, 82, 83, 22, 84, 24, 85, 86, 87, 88, 89, 90, 91, 92, 93, 94, 95, 96, 97, 98, 99, 100, 101, 102, 103, 104, 105, 106, 107, 108, 109, 110, 111, 112] (by decide +kernel) (by decide +kernel)
set_option maxRecDepth 20000 in
theorem gX6_readAll_X6_readOthers : GoodIn wsX6_readAll (wsV RX6 59 RX6 yX6_readOthers wsX6_readOthers) := goodIn_app (goodIn_of _ (by decide +kernel)) ggX6_readAll_X6_readOthers
set_option maxRecDepth 20000 in
theorem ggX6_readInterest_X6_nextSign : GoodIn wsX6_readInterest wsX6_nextSign := goodIn_r _ [9, 1, 10, 11, 30, 31, 32, 33, 34, 35, 36, 37] (by decide +kernel) (by decide +kernel)
set_option maxRecDepth 20000 in
theorem gX6_readInterest_X6_nextSign : GoodIn wsX6_readInterest (wsV RX6 48 RX6 yX6_nextSign wsX6_nextSign) := goodIn_app (goodIn_of _ (by decide +kernel)) ggX6_readInterest_X6_nextSign
set_option maxRecDepth 20000 in
theorem ggX6_readInterest_X6_blame : GoodIn wsX6_readInterest wsX6_blame := goodIn_r _ [15, 16, 17, 30, 31, 32, 33, 34, 35, 36, 37] (by decide +kernel) (by decide +kernel)
set_option maxRecDepth 20000 in
theorem gX6_readInterest_X6_blame : GoodIn wsX6_readInterest (wsV RX6 62 RX6 yX6_blame wsX6_blame) := goodIn_app (goodIn_of _ (by decide +kernel)) ggX6_readInterest_X6_blame
set_option maxRecDepth 20000 in
theorem ggX6_readInterest_X6_readNumber : GoodIn wsX6_readInterest wsX6_readNumber := goodIn_r _ [21, 1, 22, 10, 11, 5, 6, 7, 8, 9, 23, 24, 25, 12, 13, 14, 15, 16, 17, 30, 31, 32, 33, 34, 35, 36, 37] (by decide +kernel) (by decide +kernel)
set_option maxRecDepth 20000 in
theorem gX6_readInterest_X6_readNumber : GoodIn wsX6_readInterest (wsV RX6 66 RX6 yX6_readNumber wsX6_readNumber) := goodIn_app (goodIn_of _ (by decide +kernel)) ggX6_readInterest_X6_readNumber
set_option maxRecDepth 20000 in
theorem ggX6_readInterest_X6_readSign : GoodIn wsX6_readInterest wsX6_readSign := goodIn_r _ [29, 1, 5, 6, 7, 8, 9, 10, 11, 12, 13, 14, 15, 16, 17, 30, 31, 32, 33, 34, 35, 36, 37] (by decide +kernel) (by decide +kernel)
set_option maxRecDepth 20000 in
theorem gX6_readInterest_X6_readSign : GoodIn wsX6_readInterest (wsV RX6 76 RX6 yX6_readSign wsX6_readSign) := goodIn_app (goodIn_of _ (by decide +kernel)) ggX6_readInterest_X6_readSign
set_option maxRecDepth 20000 in
theorem ggX6_readOthers_X6_nextSign : GoodIn wsX6_readOthers wsX6_nextSign := goodIn_r _ [6, 7, 8, 9, 58, 59, 60, 61, 62, 63, 64, 65] (by decide +kernel) (by decide +kernel)
set_option maxRecDepth 20000 in
theorem gX6_readOthers_X6_nextSign : GoodIn wsX6_readOthers (wsV RX6 48 RX6 yX6_nextSign wsX6_nextSign) := goodIn_app (goodIn_of _ (by decide +kernel)) ggX6_readOthers_X6_nextSign
set_option maxRecDepth 20000 in
theorem ggX6_readOthers_X6_readClause : GoodIn wsX6_readOthers wsX6_readClause := goodIn_r _ [13, 7, 14, 15, 16, 5, 17, 18, 19, 20, 21, 22, 23, 24, 25, 26, 27, 28, 29, 30, 1, 31, 32, 33, 34, 35, 8, 9, 2, 3, 4, 6, 36, 37, 38, 39, 40, 41, 42, 43, 44, 45, 46, 47, 48, 49, 50, 51, 52, 53, 54, 55, 56, 57, 58, 59, 60, 61, 62, 63, 64, 65, 66, 67, 68, 69, 70, 71, 72, 73, 74, 75, 76, 77, 78, 79, 80, 81] (by decide +kernel) (by decide +kernel)
set_option maxRecDepth 20000 in
theorem gX6_readOthers_X6_readClause : GoodIn wsX6_readOthers (wsV RX6 80 RX6 yX6_readClause wsX6_readClause) := goodIn_app (goodIn_of _ (by decide +kernel)) ggX6_readOthers_X6_readClause
set_option maxRecDepth 20000 in
theorem ggX6_readClause_X6_readCreditor : GoodIn wsX6_readClause wsX6_readCreditor := goodIn_r _ [6, 7, 8, 9, 1, 10, 11, 12, 13, 14, 15, 16, 17, 18, 5, 19, 20, 21, 22, 23, 24, 25, 26, 27, 28, 29, 30, 31, 32, 33, 34, 35, 36, 37, 38, 54, 55, 56, 57, 58, 59, 60, 61, 62, 63, 64, 65, 66, 67, 68, 69, 70, 71, 72, 73, 74, 75, 76, 77] (by decide +kernel) (by decide +kernel)
set_option maxRecDepth 20000 in
theorem gX6_readClause_X6_readCreditor : GoodIn wsX6_readClause (wsV RX6 83 RX6 yX6_readCreditor wsX6_readCreditor) := goodIn_app (goodIn_of _ (by decide +kernel)) ggX6_readClause_X6_readCreditor
set_option maxRecDepth 20000 in
theorem ggX6_readClause_X6_readPerson : GoodIn wsX6_readClause wsX6_readPerson := goodIn_r _ [42, 7, 9, 8, 1, 10, 43, 16, 17, 18, 5, 19, 20, 21, 35, 36, 37, 38, 28, 29, 30, 31, 26, 27, 22, 23, 24, 25, 14, 32, 33, 34, 44, 45, 46, 47, 48, 49, 50, 51, 52, 53, 54, 55, 56, 57, 58, 59, 60, 61, 62, 63, 64, 65, 66, 67, 68, 69, 70, 71, 72, 73, 74, 75, 76, 77] (by decide +kernel) (by decide +kernel)
set_option maxRecDepth 20000 in
theorem gX6_readClause_X6_readPerson : GoodIn wsX6_readClause (wsV RX6 86 RX6 yX6_readPerson wsX6_readPerson) := goodIn_app (goodIn_of _ (by decide +kernel)) ggX6_readClause_X6_readPerson
set_option maxRecDepth 20000 in
theorem ggX6_readClause_X6_blame : GoodIn wsX6_readClause wsX6_blame := goodIn_r _ [19, 20, 21, 54, 55, 56, 57, 58, 59, 60, 61] (by decide +kernel) (by decide +kernel)
set_option maxRecDepth 20000 in
theorem gX6_readClause_X6_blame : GoodIn wsX6_readClause (wsV RX6 62 RX6 yX6_blame wsX6_blame) := goodIn_app (goodIn_of _ (by decide +kernel)) ggX6_readClause_X6_blame
set_option maxRecDepth 20000 in
theorem ggX6_readCreditor_X6_blame : GoodIn wsX6_readCreditor wsX6_blame := goodIn_r _ [15, 16, 17, 35, 36, 37, 38, 39, 40, 41, 42] (by decide +kernel) (by decide +kernel)
set_option maxRecDepth 20000 in
theorem gX6_readCreditor_X6_blame : GoodIn wsX6_readCreditor (wsV RX6 62 RX6 yX6_blame wsX6_blame) := goodIn_app (goodIn_of _ (by decide +kernel)) ggX6_readCreditor_X6_blame
set_option maxRecDepth 20000 in
theorem ggX6_readCreditor_X6_readNumber : GoodIn wsX6_readCreditor wsX6_readNumber := goodIn_r _ [21, 4, 9, 22, 23, 24, 25, 26, 14, 27, 28, 29, 30, 11, 12, 13, 15, 16, 17, 35, 36, 37, 38, 39, 40, 41, 42] (by decide +kernel) (by decide +kernel)
set_option maxRecDepth 20000 in
theorem gX6_readCreditor_X6_readNumber : GoodIn wsX6_readCreditor (wsV RX6 66 RX6 yX6_readNumber wsX6_readNumber) := goodIn_app (goodIn_of _ (by decide +kernel)) ggX6_readCreditor_X6_readNumber
set_option maxRecDepth 20000 in
theorem ggX6_readCreditor_X6_readSign : GoodIn wsX6_readCreditor wsX6_readSign := goodIn_r _ [34, 4, 24, 25, 26, 14, 27, 22, 23, 11, 12, 13, 15, 16, 17, 35, 36, 37, 38, 39, 40, 41, 42] (by decide +kernel) (by decide +kernel)
set_option maxRecDepth 20000 in
theorem gX6_readCreditor_X6_readSign : GoodIn wsX6_readCreditor (wsV RX6 76 RX6 yX6_readSign wsX6_readSign) := goodIn_app (goodIn_of _ (by decide +kernel)) ggX6_readCreditor_X6_readSign
set_option maxRecDepth 20000 in
theorem ggX6_readPerson_X6_blame : GoodIn wsX6_readPerson wsX6_blame := goodIn_r _ [11, 12, 13, 42, 43, 44, 45, 46, 47, 48, 49] (by decide +kernel) (by decide +kernel)
set_option maxRecDepth 20000 in
theorem gX6_readPerson_X6_blame : GoodIn wsX6_readPerson (wsV RX6 62 RX6 yX6_blame wsX6_blame) := goodIn_app (goodIn_of _ (by decide +kernel)) ggX6_readPerson_X6_blame
set_option maxRecDepth 20000 in
theorem ggX6_readPerson_X6_readSign : GoodIn wsX6_readPerson wsX6_readSign := goodIn_r _ [17, 4, 18, 19, 20, 10, 21, 22, 23, 7, 8, 9, 11, 12, 13, 42, 43, 44, 45, 46, 47, 48, 49] (by decide +kernel) (by decide +kernel)
set_option maxRecDepth 20000 in
theorem gX6_readPerson_X6_readSign : GoodIn wsX6_readPerson (wsV RX6 76 RX6 yX6_readSign wsX6_readSign) := goodIn_app (goodIn_of _ (by decide +kernel)) ggX6_readPerson_X6_readSign
set_option maxRecDepth 20000 in
theorem ggX6_readPerson_X6_readNumber : GoodIn wsX6_readPerson wsX6_readNumber := goodIn_r _ [27, 4, 28, 22, 23, 18, 19, 20, 10, 21, 29, 30, 31, 7, 8, 9, 11, 12, 13, 42, 43, 44, 45, 46, 47, 48, 49] (by decide +kernel) (by decide +kernel)
set_option maxRecDepth 20000 in
theorem gX6_readPerson_X6_readNumber : GoodIn wsX6_readPerson (wsV RX6 66 RX6 yX6_readNumber wsX6_readNumber) := goodIn_app (goodIn_of _ (by decide +kernel)) ggX6_readPerson_X6_readNumber
set_option maxRecDepth 20000 in
theorem ggX6_readPerson_X7_setOwed : GoodIn wsX6_readPerson wsX7_setOwed := goodIn_r _ [36, 37, 38, 39, 40, 41, 59, 60, 61, 62, 63, 64, 65] (by decide +kernel) (by decide +kernel)
set_option maxRecDepth 20000 in
theorem gX6_readPerson_X7_setOwed : GoodIn wsX6_readPerson (wsV RX6 111 RX7 yX7_setOwed wsX7_setOwed) := goodIn_app (goodIn_of _ (by decide +kernel)) ggX6_readPerson_X7_setOwed
set_option maxRecDepth 20000 in
theorem ggX6_readSign_X6_nextSign : GoodIn wsX6_readSign wsX6_nextSign := goodIn_r _ [6, 1, 7, 8, 15, 16, 17, 18, 19, 20, 21, 22] (by decide +kernel) (by decide +kernel)
set_option maxRecDepth 20000 in
theorem gX6_readSign_X6_nextSign : GoodIn wsX6_readSign (wsV RX6 48 RX6 yX6_nextSign wsX6_nextSign) := goodIn_app (goodIn_of _ (by decide +kernel)) ggX6_readSign_X6_nextSign
set_option maxRecDepth 20000 in
theorem ggX6_readSign_X6_blame : GoodIn wsX6_readSign wsX6_blame := goodIn_r _ [12, 13, 14, 15, 16, 17, 18, 19, 20, 21, 22] (by decide +kernel) (by decide +kernel)
set_option maxRecDepth 20000 in
theorem gX6_readSign_X6_blame : GoodIn wsX6_readSign (wsV RX6 62 RX6 yX6_blame wsX6_blame) := goodIn_app (goodIn_of _ (by decide +kernel)) ggX6_readSign_X6_blame
set_option maxRecDepth 20000 in
theorem ggX6_readNumber_X6_nextSign : GoodIn wsX6_readNumber wsX6_nextSign := goodIn_r _ [9, 1, 3, 4, 19, 20, 21, 22, 23, 24, 25, 26] (by decide +kernel) (by decide +kernel)
set_option maxRecDepth 20000 in
theorem gX6_readNumber_X6_nextSign : GoodIn wsX6_readNumber (wsV RX6 48 RX6 yX6_nextSign wsX6_nextSign) := goodIn_app (goodIn_of _ (by decide +kernel)) ggX6_readNumber_X6_nextSign
set_option maxRecDepth 20000 in
theorem ggX6_readNumber_X6_isFigure : GoodIn wsX6_readNumber wsX6_isFigure := goodIn_r _ [12] (by decide +kernel) (by decide +kernel)
set_option maxRecDepth 20000 in
theorem gX6_readNumber_X6_isFigure : GoodIn wsX6_readNumber (va_wsS RX6 118 yX6_isFigure wsX6_isFigure) := goodIn_app (goodIn_of _ (by decide +kernel)) ggX6_readNumber_X6_isFigure
set_option maxRecDepth 20000 in
theorem ggX6_readNumber_X6_blame : GoodIn wsX6_readNumber wsX6_blame := goodIn_r _ [16, 17, 18, 19, 20, 21, 22, 23, 24, 25, 26] (by decide +kernel) (by decide +kernel)
set_option maxRecDepth 20000 in
theorem gX6_readNumber_X6_blame : GoodIn wsX6_readNumber (wsV RX6 62 RX6 yX6_blame wsX6_blame) := goodIn_app (goodIn_of _ (by decide +kernel)) ggX6_readNumber_X6_blame
