set_option maxRecDepth 20000 in
theorem ggL_grows_X6_setRange : GoodIn wsL_grows wsX6_setRange := goodIn_r _ [57, 15, 16, 58, 17, 18, 13, 19, 20, 21, 22, 23, 24, 25, 26, 27, 28, 29, 30, 31, 32, 33, 34, 35, 36, 37, 38, 39, 40, 41, 42, 43, 44, 45, 122, 123, 124, 125, 126, 127, 128, 132, 133, 134, 135, 136, 129, 130, 131] (by decide +kernel) (by decide +kernel)
set_option maxRecDepth 20000 in
theorem gL_grows_X6_setRange : GoodIn wsL_grows (wsV RL 35 RX6 yX6_setRange wsX6_setRange) := goodIn_app (goodIn_of _ (by decide +kernel)) ggL_grows_X6_setRange
set_option maxRecDepth 20000 in
theorem ggL_grows_X6_setBulge : GoodIn wsL_grows wsX6_setBulge := goodIn_r _ [62, 15, 16, 63, 17, 18, 13, 19, 20, 21, 22, 23, 24, 25, 26, 27, 28, 29, 30, 31, 32, 33, 34, 35, 36, 37, 38, 39, 40, 41, 42, 43, 44, 45, 122, 123, 124, 125, 126, 127, 128, 132, 133, 134, 135, 136, 129, 130, 131] (by decide +kernel) (by decide +kernel)
set_option maxRecDepth 20000 in
theorem gL_grows_X6_setBulge : GoodIn wsL_grows (wsV RL 39 RX6 yX6_setBulge wsX6_setBulge) := goodIn_app (goodIn_of _ (by decide +kernel)) ggL_grows_X6_setBulge
set_option maxRecDepth 20000 in
theorem ggL_grows_X6_setGround : GoodIn wsL_grows wsX6_setGround := goodIn_r _ [67, 16, 15, 68, 69, 70, 71, 35, 72, 43, 17, 18, 13, 19, 20, 21, 22, 23, 24, 25, 26, 27, 28, 29, 30, 31, 32, 33, 34, 36, 37, 38, 39, 40, 41, 42, 44, 45, 122, 123, 124, 125, 126, 127, 128, 132, 133, 134, 135, 136, 129, 130, 131] (by decide +kernel) (by decide +kernel)
set_option maxRecDepth 20000 in
theorem gL_grows_X6_setGround : GoodIn wsL_grows (wsV RL 42 RX6 yX6_setGround wsX6_setGround) := goodIn_app (goodIn_of _ (by decide +kernel)) ggL_grows_X6_setGround
set_option maxRecDepth 20000 in
theorem ggL_grows_X6_mast : GoodIn wsL_grows wsX6_mast := goodIn_r _ [76, 16, 15, 77, 69, 70, 71, 35, 72, 43, 17, 18, 13, 19, 20, 21, 22, 23, 24, 25, 26, 27, 28, 29, 30, 31, 32, 33, 34, 36, 37, 38, 39, 40, 41, 42, 44, 45, 122, 123, 124, 125, 126, 127, 128, 132, 133, 134, 135, 136, 129, 130, 131] (by decide +kernel) (by decide +kernel)
set_option maxRecDepth 20000 in
theorem gL_grows_X6_mast : GoodIn wsL_grows (wsV RL 45 RX6 yX6_mast wsX6_mast) := goodIn_app (goodIn_of _ (by decide +kernel)) ggL_grows_X6_mast
set_option maxRecDepth 20000 in
theorem ggL_grows_X6_count : GoodIn wsL_grows wsX6_count := goodIn_r _ [81, 16, 82, 58, 63, 15, 83, 84, 85, 86, 87, 88, 35, 89, 43, 45, 90, 91, 92, 93, 94, 95, 96, 97, 98, 99, 100, 101, 44, 102, 70, 71, 72, 103, 104, 105, 106, 107, 108, 30, 109, 110, 29, 31, 111, 112, 113, 114, 115, 116, 117, 38, 118, 119, 120, 121, 122, 123, 124, 125, 126, 127, 128, 132, 133, 134, 135, 136, 129, 130, 131, 137, 138, 139, 140] (by decide +kernel) (by decide +kernel)
set_option maxRecDepth 20000 in
theorem gL_grows_X6_count : GoodIn wsL_grows (wsV RL 48 RX6 yX6_count wsX6_count) := goodIn_app (goodIn_of _ (by decide +kernel)) ggL_grows_X6_count
set_option maxRecDepth 20000 in
theorem ggL_grounds_L_top : GoodIn wsL_grounds wsL_top := goodIn_r _ [4] (by decide +kernel) (by decide +kernel)
set_option maxRecDepth 20000 in
theorem gL_grounds_L_top : GoodIn wsL_grounds (va_wsS RL 9 yL_top wsL_top) := goodIn_app (goodIn_of _ (by decide +kernel)) ggL_grounds_L_top
