set_option maxRecDepth 20000 in
theorem ggX1_sift_X1_fits : GoodIn wsX1_sift wsX1_fits := goodIn_r _ [7, 8, 9, 10, 11, 12, 13, 14, 6, 15, 16, 17, 18, 19, 20, 21, 22, 23, 24, 25, 26, 27, 28, 29, 30, 31, 32, 33, 34, 35, 36, 37, 38, 39, 40, 41, 42, 43, 44, 45, 46, 47] (by decide +kernel) (by decide +kernel)
set_option maxRecDepth 20000 in
theorem gX1_sift_X1_fits : GoodIn wsX1_sift (wsV RX1 35 RX1 yX1_fits wsX1_fits) := goodIn_app (goodIn_of _ (by decide +kernel)) ggX1_sift_X1_fits
set_option maxRecDepth 20000 in
theorem ggX1_fits_X1_behind : GoodIn wsX1_fits wsX1_behind := goodIn_r _ [9, 10, 11, 12, 13, 14, 15, 16, 17, 18, 19, 33, 34, 35, 36, 37, 38, 39, 40, 41] (by decide +kernel) (by decide +kernel)
set_option maxRecDepth 20000 in
theorem gX1_fits_X1_behind : GoodIn wsX1_fits (va_wsS RX1 39 yX1_behind wsX1_behind) := goodIn_app (goodIn_of _ (by decide +kernel)) ggX1_fits_X1_behind
set_option maxRecDepth 20000 in
theorem ggX1_fits_X8_within : GoodIn wsX1_fits wsX8_within := goodIn_r _ [23, 24, 25, 33, 34, 35, 36, 37, 38, 39, 40, 41] (by decide +kernel) (by decide +kernel)
set_option maxRecDepth 20000 in
theorem gX1_fits_X8_within : GoodIn wsX1_fits (wsV RX1 43 RX8 yX8_within wsX8_within) := goodIn_app (goodIn_of _ (by decide +kernel)) ggX1_fits_X8_within
set_option maxRecDepth 20000 in
theorem ggX1_behind_X8_grown : GoodIn wsX1_behind wsX8_grown := goodIn_r _ [5, 6, 7, 8, 9, 10, 11, 12, 13, 14, 15, 16, 17, 18, 19] (by decide +kernel) (by decide +kernel)
set_option maxRecDepth 20000 in
theorem gX1_behind_X8_grown : GoodIn wsX1_behind (wsV RX1 49 RX8 yX8_grown wsX8_grown) := goodIn_app (goodIn_of _ (by decide +kernel)) ggX1_behind_X8_grown
set_option maxRecDepth 20000 in
theorem ggX1_bestLook_X8_within : GoodIn wsX1_bestLook wsX8_within := goodIn_r _ [11, 12, 13, 29, 30, 31, 32, 33, 34, 35, 36, 37] (by decide +kernel) (by decide +kernel)
set_option maxRecDepth 20000 in
theorem gX1_bestLook_X8_within : GoodIn wsX1_bestLook (wsV RX1 43 RX8 yX8_within wsX8_within) := goodIn_app (goodIn_of _ (by decide +kernel)) ggX1_bestLook_X8_within
set_option maxRecDepth 20000 in
theorem ggX1_bestLook_X8_grown : GoodIn wsX1_bestLook wsX8_grown := goodIn_r _ [17, 18, 19, 20, 5, 21, 29, 30, 31, 32, 33, 34, 35, 36, 37] (by decide +kernel) (by decide +kernel)
set_option maxRecDepth 20000 in
theorem gX1_bestLook_X8_grown : GoodIn wsX1_bestLook (wsV RX1 49 RX8 yX8_grown wsX8_grown) := goodIn_app (goodIn_of _ (by decide +kernel)) ggX1_bestLook_X8_grown
