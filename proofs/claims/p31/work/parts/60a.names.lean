set_option maxRecDepth 20000 in
theorem ggL_sees_L_top : GoodIn wsL_sees wsL_top := goodIn_r _ [4] (by decide +kernel) (by decide +kernel)
set_option maxRecDepth 20000 in
theorem gL_sees_L_top : GoodIn wsL_sees (va_wsS RL 9 yL_top wsL_top) := goodIn_app (goodIn_of _ (by decide +kernel)) ggL_sees_L_top
set_option maxRecDepth 20000 in
theorem ggL_sees_L_meet : GoodIn wsL_sees wsL_meet := goodIn_r _ [7] (by decide +kernel) (by decide +kernel)
set_option maxRecDepth 20000 in
theorem gL_sees_L_meet : GoodIn wsL_sees (va_wsS RL 15 yL_meet wsL_meet) := goodIn_app (goodIn_of _ (by decide +kernel)) ggL_sees_L_meet
set_option maxRecDepth 20000 in
theorem ggL_contact_L_sees : GoodIn wsL_contact wsL_sees := goodIn_r _ [4, 5, 6, 3, 7, 8, 9, 10] (by decide +kernel) (by decide +kernel)
set_option maxRecDepth 20000 in
theorem gL_contact_L_sees : GoodIn wsL_contact (va_wsS RL 19 yL_sees wsL_sees) := goodIn_app (goodIn_of _ (by decide +kernel)) ggL_contact_L_sees
set_option maxRecDepth 20000 in
theorem ggL_grows_L_cell : GoodIn wsL_grows wsL_cell := goodIn_r _ [4, 5] (by decide +kernel) (by decide +kernel)
set_option maxRecDepth 20000 in
theorem gL_grows_L_cell : GoodIn wsL_grows (va_wsS RL 23 yL_cell wsL_cell) := goodIn_app (goodIn_of _ (by decide +kernel)) ggL_grows_L_cell
set_option maxRecDepth 20000 in
theorem ggL_grows_L_low : GoodIn wsL_grows wsL_low := goodIn_r _ [8, 9] (by decide +kernel) (by decide +kernel)
set_option maxRecDepth 20000 in
theorem gL_grows_L_low : GoodIn wsL_grows (va_wsS RL 26 yL_low wsL_low) := goodIn_app (goodIn_of _ (by decide +kernel)) ggL_grows_L_low
set_option maxRecDepth 20000 in
theorem ggL_grows_X6_reset : GoodIn wsL_grows wsX6_reset := goodIn_r _ [14, 15, 16, 17, 18, 13, 19, 20, 21, 22, 23, 24, 25, 26, 27, 28, 29, 30, 31, 32, 33, 34, 35, 36, 37, 38, 39, 40, 41, 42, 43, 44, 45, 46, 47, 48, 49, 50, 51, 52, 53, 122, 123, 124, 125, 126, 127, 128, 129, 130, 131, 132, 133, 134, 135, 136] (by decide +kernel) (by decide +kernel)
set_option maxRecDepth 20000 in
theorem gL_grows_X6_reset : GoodIn wsL_grows (wsV RL 30 RX6 yX6_reset wsX6_reset) := goodIn_app (goodIn_of _ (by decide +kernel)) ggL_grows_X6_reset
