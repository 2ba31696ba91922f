set_option maxRecDepth 20000 in
theorem ggX0_firstWrong_X7_standingOf : GoodIn wsX0_firstWrong wsX7_standingOf := goodIn_r _ [8, 9, 10, 11, 12, 13, 7, 14, 15, 16, 17, 18, 19, 20, 21, 22, 23, 24, 25, 26, 27, 28, 29, 30, 31, 32, 33, 34, 35, 36, 37, 38, 39, 40, 44, 45, 46, 47, 48, 49, 50, 51, 52, 53, 54, 55, 56, 57, 58, 59] (by decide +kernel) (by decide +kernel)
set_option maxRecDepth 20000 in
theorem gX0_firstWrong_X7_standingOf : GoodIn wsX0_firstWrong (wsV RX0 22 RX7 yX7_standingOf wsX7_standingOf) := goodIn_app (goodIn_of _ (by decide +kernel)) ggX0_firstWrong_X7_standingOf
