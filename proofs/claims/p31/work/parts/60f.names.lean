set_option maxRecDepth 20000 in
theorem ggL_changes_X6_mast : GoodIn wsL_changes wsX6_mast := goodIn_r _ [50, 11, 12, 51, 14, 15, 16, 17, 18, 19, 20, 21, 9, 22, 23, 24, 25, 26, 27, 28, 29, 30, 31, 32, 33, 34, 35, 36, 37, 38, 39, 40, 41, 42, 43, 44, 45, 46, 81, 82, 83, 84, 85, 86, 87, 88, 89, 90, 91, 92, 93, 94, 95] (by decide +kernel) (by decide +kernel)
set_option maxRecDepth 20000 in
theorem gL_changes_X6_mast : GoodIn wsL_changes (wsV RL 45 RX6 yX6_mast wsX6_mast) := goodIn_app (goodIn_of _ (by decide +kernel)) ggL_changes_X6_mast
set_option maxRecDepth 20000 in
theorem ggL_changes_X6_slope : GoodIn wsL_changes wsX6_slope := goodIn_r _ [55, 11, 12, 14, 15, 16, 17, 18, 19, 23, 24, 25, 26, 27, 28, 29, 30, 31, 32, 33, 34, 35, 36, 37, 38, 39, 40, 41, 42, 43, 44, 45, 46, 56, 57, 58, 59, 60, 81, 82, 83, 84, 85, 86, 87, 88, 89, 90, 91, 92, 93, 94, 95] (by decide +kernel) (by decide +kernel)
set_option maxRecDepth 20000 in
theorem gL_changes_X6_slope : GoodIn wsL_changes (wsV RL 80 RX6 yX6_slope wsX6_slope) := goodIn_app (goodIn_of _ (by decide +kernel)) ggL_changes_X6_slope
set_option maxRecDepth 20000 in
theorem ggL_changes_X6_reverse : GoodIn wsL_changes wsX6_reverse := goodIn_r _ [64, 12, 11, 65, 23, 24, 25, 26, 27, 28, 29, 30, 31, 32, 33, 34, 35, 36, 37, 17, 38, 39, 40, 41, 42, 43, 44, 19, 45, 46, 66, 67, 68, 69, 70, 81, 82, 83, 84, 85, 86, 87, 93, 94, 95, 88, 89, 90, 91, 92] (by decide +kernel) (by decide +kernel)
set_option maxRecDepth 20000 in
theorem gL_changes_X6_reverse : GoodIn wsL_changes (wsV RL 83 RX6 yX6_reverse wsX6_reverse) := goodIn_app (goodIn_of _ (by decide +kernel)) ggL_changes_X6_reverse
set_option maxRecDepth 20000 in
theorem ggL_changes_X6_setRange : GoodIn wsL_changes wsX6_setRange := goodIn_r _ [74, 12, 11, 75, 20, 21, 9, 22, 23, 24, 25, 26, 27, 28, 29, 30, 31, 32, 33, 34, 35, 36, 37, 17, 38, 39, 40, 41, 42, 43, 44, 19, 45, 46, 81, 82, 83, 84, 85, 86, 87, 88, 89, 90, 91, 92, 93, 94, 95] (by decide +kernel) (by decide +kernel)
set_option maxRecDepth 20000 in
theorem gL_changes_X6_setRange : GoodIn wsL_changes (wsV RL 35 RX6 yX6_setRange wsX6_setRange) := goodIn_app (goodIn_of _ (by decide +kernel)) ggL_changes_X6_setRange
set_option maxRecDepth 20000 in
theorem ggL_changes_X6_setBulge : GoodIn wsL_changes wsX6_setBulge := goodIn_r _ [79, 12, 11, 80, 20, 21, 9, 22, 23, 24, 25, 26, 27, 28, 29, 30, 31, 32, 33, 34, 35, 36, 37, 17, 38, 39, 40, 41, 42, 43, 44, 19, 45, 46, 81, 82, 83, 84, 85, 86, 87, 88, 89, 90, 91, 92, 93, 94, 95] (by decide +kernel) (by decide +kernel)
set_option maxRecDepth 20000 in
theorem gL_changes_X6_setBulge : GoodIn wsL_changes (wsV RL 39 RX6 yX6_setBulge wsX6_setBulge) := goodIn_app (goodIn_of _ (by decide +kernel)) ggL_changes_X6_setBulge
set_option maxRecDepth 20000 in
theorem ggL_law_X6_init : GoodIn wsL_law wsX6_init := goodIn_r _ [6, 7, 8, 9, 10, 11, 12, 13, 14, 15, 16, 17, 18, 19, 20, 21, 22, 23, 24, 25, 26, 27, 28, 29, 30, 31, 32, 33, 34, 35, 36, 37, 3, 38, 39, 40, 41, 42, 43, 44, 45, 46, 47, 48, 49, 50, 51, 52, 53, 54, 55, 56, 57, 58, 59, 60, 61, 62, 63, 64, 65, 66, 67, 68, 69, 70, 71, 72, 73, 74, 75, 76, 77, 323, 324, 325, 326, 327, 316, 317, 318, 319, 320, 321, 322, 328, 329, 330, 331, 332, 333, 334, 335, 336, 337, 338, 339, 340, 341, 342, 343, 344] (by decide +kernel) (by decide +kernel)
set_option maxRecDepth 20000 in
theorem gL_law_X6_init : GoodIn wsL_law (wsX6_init) := ggL_law_X6_init
