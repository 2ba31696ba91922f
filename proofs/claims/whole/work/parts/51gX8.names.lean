set_option maxRecDepth 20000 in
theorem ggX8_hasBoth_X8_hasPerson : GoodIn wsX8_hasBoth wsX8_hasPerson := goodIn_r _ [5, 6, 12, 13, 14, 15, 16, 17, 18, 19, 20] (by decide +kernel) (by decide +kernel)
set_option maxRecDepth 20000 in
theorem gX8_hasBoth_X8_hasPerson : GoodIn wsX8_hasBoth (wsV RX8 47 RX8 yX8_hasPerson wsX8_hasPerson) := goodIn_app (goodIn_of _ (by decide +kernel)) ggX8_hasBoth_X8_hasPerson
set_option maxRecDepth 20000 in
theorem ggX8_hasBoth_X8_hasCreditor : GoodIn wsX8_hasBoth wsX8_hasCreditor := goodIn_r _ [10, 11, 12, 13, 14, 15, 16, 17, 18, 19, 20] (by decide +kernel) (by decide +kernel)
set_option maxRecDepth 20000 in
theorem gX8_hasBoth_X8_hasCreditor : GoodIn wsX8_hasBoth (wsV RX8 51 RX8 yX8_hasCreditor wsX8_hasCreditor) := goodIn_app (goodIn_of _ (by decide +kernel)) ggX8_hasBoth_X8_hasCreditor
set_option maxRecDepth 20000 in
theorem ggX8_isGirl_X8_hasPerson : GoodIn wsX8_isGirl wsX8_hasPerson := goodIn_r _ [6, 7, 8, 9, 10, 11, 12, 13, 14, 15, 16] (by decide +kernel) (by decide +kernel)
set_option maxRecDepth 20000 in
theorem gX8_isGirl_X8_hasPerson : GoodIn wsX8_isGirl (wsV RX8 47 RX8 yX8_hasPerson wsX8_hasPerson) := goodIn_app (goodIn_of _ (by decide +kernel)) ggX8_isGirl_X8_hasPerson
set_option maxRecDepth 20000 in
theorem ggX8_isMan_X8_hasPerson : GoodIn wsX8_isMan wsX8_hasPerson := goodIn_r _ [6, 7, 8, 9, 10, 11, 12, 13, 14, 15, 16] (by decide +kernel) (by decide +kernel)
set_option maxRecDepth 20000 in
theorem gX8_isMan_X8_hasPerson : GoodIn wsX8_isMan (wsV RX8 47 RX8 yX8_hasPerson wsX8_hasPerson) := goodIn_app (goodIn_of _ (by decide +kernel)) ggX8_isMan_X8_hasPerson
