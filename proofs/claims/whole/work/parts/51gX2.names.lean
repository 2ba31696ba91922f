set_option maxRecDepth 20000 in
theorem ggX2_init_X7_init : GoodIn wsX2_init wsX7_init := goodIn_r _ [10, 11, 2, 3, 12, 13, 14, 15, 16, 17, 21, 22, 23, 24, 25, 26, 27] (by decide +kernel) (by decide +kernel)
set_option maxRecDepth 20000 in
theorem gX2_init_X7_init : GoodIn wsX2_init (wsX7_init) := ggX2_init_X7_init
set_option maxRecDepth 20000 in
theorem ggX2_note_X7_take : GoodIn wsX2_note wsX7_take := goodIn_r _ [8, 9, 10, 11, 12, 13, 14, 15, 16, 17, 18, 22, 23, 24, 25, 26, 27, 28] (by decide +kernel) (by decide +kernel)
set_option maxRecDepth 20000 in
theorem gX2_note_X7_take : GoodIn wsX2_note (wsV RX2 27 RX7 yX7_take wsX7_take) := goodIn_app (goodIn_of _ (by decide +kernel)) ggX2_note_X7_take
set_option maxRecDepth 20000 in
theorem ggX2_restore_X7_take : GoodIn wsX2_restore wsX7_take := goodIn_r _ [8, 9, 10, 11, 12, 13, 14, 15, 16, 17, 18, 22, 23, 24, 25, 26, 27, 28] (by decide +kernel) (by decide +kernel)
set_option maxRecDepth 20000 in
theorem gX2_restore_X7_take : GoodIn wsX2_restore (wsV RX2 27 RX7 yX7_take wsX7_take) := goodIn_app (goodIn_of _ (by decide +kernel)) ggX2_restore_X7_take
