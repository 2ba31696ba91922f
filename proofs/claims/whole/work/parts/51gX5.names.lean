set_option maxRecDepth 20000 in
theorem ggX5_work_X5_addQuarter : GoodIn wsX5_work wsX5_addQuarter := goodIn_r _ [14, 2, 4, 5, 6, 7, 8, 1, 15, 16, 17, 13, 18, 19, 20, 21, 22, 23, 24, 25, 26, 27, 28, 29, 30, 31, 35, 36, 37, 38, 39, 40, 41, 42, 43, 32, 33, 34] (by decide +kernel) (by decide +kernel)
set_option maxRecDepth 20000 in
theorem gX5_work_X5_addQuarter : GoodIn wsX5_work (wsV RX5 15 RX5 yX5_addQuarter wsX5_addQuarter) := goodIn_app (goodIn_of _ (by decide +kernel)) ggX5_work_X5_addQuarter
set_option maxRecDepth 20000 in
theorem ggX5_work_X5_costFrom : GoodIn wsX5_work wsX5_costFrom := goodIn_r _ [18, 1, 2, 19, 20, 21, 22, 23, 24, 25, 6, 7, 8, 26, 27, 28, 29, 30, 31, 32, 33, 34, 35, 36, 37, 38, 39, 40, 41, 42, 43] (by decide +kernel) (by decide +kernel)
set_option maxRecDepth 20000 in
theorem gX5_work_X5_costFrom : GoodIn wsX5_work (wsV RX5 35 RX5 yX5_costFrom wsX5_costFrom) := goodIn_app (goodIn_of _ (by decide +kernel)) ggX5_work_X5_costFrom
set_option maxRecDepth 20000 in
theorem ggX5_addQuarter_X5_costFrom : GoodIn wsX5_addQuarter wsX5_costFrom := goodIn_r _ [12, 7, 1, 13, 14, 15, 16, 17, 18, 19, 4, 5, 6, 20, 21, 22, 23, 24, 25, 35, 36, 37, 26, 27, 28, 29, 30, 31, 32, 33, 34] (by decide +kernel) (by decide +kernel)
set_option maxRecDepth 20000 in
theorem gX5_addQuarter_X5_costFrom : GoodIn wsX5_addQuarter (wsV RX5 35 RX5 yX5_costFrom wsX5_costFrom) := goodIn_app (goodIn_of _ (by decide +kernel)) ggX5_addQuarter_X5_costFrom
set_option maxRecDepth 20000 in
theorem ggX5_costFrom_X8_grown : GoodIn wsX5_costFrom wsX8_grown := goodIn_r _ [7, 8, 9, 10, 11, 12, 22, 23, 24, 25, 26, 27, 28, 29, 30] (by decide +kernel) (by decide +kernel)
set_option maxRecDepth 20000 in
theorem gX5_costFrom_X8_grown : GoodIn wsX5_costFrom (wsV RX5 42 RX8 yX8_grown wsX8_grown) := goodIn_app (goodIn_of _ (by decide +kernel)) ggX5_costFrom_X8_grown
set_option maxRecDepth 20000 in
theorem ggX5_costFrom_X8_within : GoodIn wsX5_costFrom wsX8_within := goodIn_r _ [16, 17, 18, 22, 23, 24, 25, 26, 27, 28, 29, 30] (by decide +kernel) (by decide +kernel)
set_option maxRecDepth 20000 in
theorem gX5_costFrom_X8_within : GoodIn wsX5_costFrom (wsV RX5 46 RX8 yX8_within wsX8_within) := goodIn_app (goodIn_of _ (by decide +kernel)) ggX5_costFrom_X8_within
