set_option maxRecDepth 20000 in
theorem ggL_isTold_L_areShadows : GoodIn wsL_isTold wsL_areShadows := goodIn_r _ [86, 57, 58, 4, 59, 6, 7, 8, 9, 10, 11, 87, 88, 89, 18, 90, 20, 21, 22, 23, 24, 25, 26, 91, 92, 93, 94, 95, 96, 97, 66, 32, 33, 34, 35, 36, 37, 76, 77, 78, 79, 38, 39, 40, 41, 42, 43, 44, 45, 46, 47, 48, 49, 50, 51, 52, 53, 54, 55, 56, 98, 99, 100, 101, 102, 103, 166, 167, 168, 169, 170, 171, 172, 173, 174, 175, 176, 177] (by decide +kernel) (by decide +kernel)
set_option maxRecDepth 20000 in
theorem gL_isTold_L_areShadows : GoodIn wsL_isTold (va_wsS RL 69 yL_areShadows wsL_areShadows) := goodIn_app (goodIn_of _ (by decide +kernel)) ggL_isTold_L_areShadows
set_option maxRecDepth 20000 in
theorem ggL_isTold_X6_groups : GoodIn wsL_isTold wsX6_groups := goodIn_r _ [107, 108, 20, 109, 110, 111, 112, 113, 114, 115, 116, 117, 118, 119, 120, 121, 32, 33, 24, 34, 35, 36, 37, 22, 23, 25, 26, 122, 123, 124, 125, 126, 54, 44, 55, 127, 128, 39, 40, 41, 42, 43, 45, 46, 47, 48, 49, 50, 51, 52, 53, 56, 129, 130, 131, 132, 102, 18, 103, 133, 134, 135, 136, 166, 167, 168, 169, 170, 171, 172, 173, 174, 175, 176, 177, 178, 179, 180, 181, 182, 183] (by decide +kernel) (by decide +kernel)
set_option maxRecDepth 20000 in
theorem gL_isTold_X6_groups : GoodIn wsL_isTold (wsV RL 73 RX6 yX6_groups wsX6_groups) := goodIn_app (goodIn_of _ (by decide +kernel)) ggL_isTold_X6_groups
set_option maxRecDepth 20000 in
theorem ggL_isTold_X6_farthest : GoodIn wsL_isTold wsX6_farthest := goodIn_r _ [140, 20, 141, 142, 72, 73, 24, 74, 53, 54, 44, 55, 75, 31, 32, 33, 34, 35, 36, 37, 22, 23, 25, 26, 38, 39, 40, 41, 42, 43, 45, 46, 47, 48, 49, 50, 51, 52, 56, 166, 167, 168, 169, 170, 171, 172, 173, 174, 175, 176, 177] (by decide +kernel) (by decide +kernel)
set_option maxRecDepth 20000 in
theorem gL_isTold_X6_farthest : GoodIn wsL_isTold (wsV RL 77 RX6 yX6_farthest wsX6_farthest) := goodIn_app (goodIn_of _ (by decide +kernel)) ggL_isTold_X6_farthest
set_option maxRecDepth 20000 in
theorem ggL_isTold_X6_count : GoodIn wsL_isTold wsX6_count := goodIn_r _ [146, 20, 141, 147, 148, 149, 150, 151, 152, 153, 154, 155, 24, 156, 26, 36, 157, 158, 159, 160, 161, 28, 29, 30, 31, 32, 33, 34, 35, 37, 22, 23, 25, 38, 39, 40, 41, 42, 43, 44, 45, 46, 47, 48, 49, 50, 51, 52, 53, 54, 55, 56, 162, 163, 164, 165, 166, 167, 168, 169, 170, 171, 172, 173, 174, 175, 176, 177, 184, 185, 186, 187, 188, 189, 190] (by decide +kernel) (by decide +kernel)
set_option maxRecDepth 20000 in
theorem gL_isTold_X6_count : GoodIn wsL_isTold (wsV RL 48 RX6 yX6_count wsX6_count) := goodIn_app (goodIn_of _ (by decide +kernel)) ggL_isTold_X6_count
set_option maxRecDepth 20000 in
theorem ggL_changes_L_low : GoodIn wsL_changes wsL_low := goodIn_r _ [4, 5] (by decide +kernel) (by decide +kernel)
set_option maxRecDepth 20000 in
theorem gL_changes_L_low : GoodIn wsL_changes (va_wsS RL 26 yL_low wsL_low) := goodIn_app (goodIn_of _ (by decide +kernel)) ggL_changes_L_low
set_option maxRecDepth 20000 in
theorem ggL_changes_X6_setGround : GoodIn wsL_changes wsX6_setGround := goodIn_r _ [10, 11, 12, 13, 14, 15, 16, 17, 18, 19, 20, 21, 9, 22, 23, 24, 25, 26, 27, 28, 29, 30, 31, 32, 33, 34, 35, 36, 37, 38, 39, 40, 41, 42, 43, 44, 45, 46, 81, 82, 83, 84, 85, 86, 87, 88, 89, 90, 91, 92, 93, 94, 95] (by decide +kernel) (by decide +kernel)
set_option maxRecDepth 20000 in
theorem gL_changes_X6_setGround : GoodIn wsL_changes (wsV RL 42 RX6 yX6_setGround wsX6_setGround) := goodIn_app (goodIn_of _ (by decide +kernel)) ggL_changes_X6_setGround
