set_option maxRecDepth 20000 in
theorem ggL_grounds_L_meet : GoodIn wsL_grounds wsL_meet := goodIn_r _ [7] (by decide +kernel) (by decide +kernel)
set_option maxRecDepth 20000 in
theorem gL_grounds_L_meet : GoodIn wsL_grounds (va_wsS RL 15 yL_meet wsL_meet) := goodIn_app (goodIn_of _ (by decide +kernel)) ggL_grounds_L_meet
set_option maxRecDepth 20000 in
theorem ggL_isObstacle_X6_obstacle : GoodIn wsL_isObstacle wsX6_obstacle := goodIn_r _ [5, 6, 7, 8, 9, 10, 11, 12, 13, 14, 15, 16, 17, 18, 4, 19, 20, 21, 22, 23, 24, 25, 26, 27, 28, 29, 30, 31, 32, 33, 34, 35, 36, 37, 38, 39, 40, 41, 42, 43, 44, 45, 46, 64, 65, 66, 67, 68, 69, 70, 71, 72, 73, 74, 75] (by decide +kernel) (by decide +kernel)
set_option maxRecDepth 20000 in
theorem gL_isObstacle_X6_obstacle : GoodIn wsL_isObstacle (wsV RL 51 RX6 yX6_obstacle wsX6_obstacle) := goodIn_app (goodIn_of _ (by decide +kernel)) ggL_isObstacle_X6_obstacle
set_option maxRecDepth 20000 in
theorem ggL_isObstacle_L_top : GoodIn wsL_isObstacle wsL_top := goodIn_r _ [50] (by decide +kernel) (by decide +kernel)
set_option maxRecDepth 20000 in
theorem gL_isObstacle_L_top : GoodIn wsL_isObstacle (va_wsS RL 9 yL_top wsL_top) := goodIn_app (goodIn_of _ (by decide +kernel)) ggL_isObstacle_L_top
set_option maxRecDepth 20000 in
theorem ggL_isObstacle_X6_sees : GoodIn wsL_isObstacle wsX6_sees := goodIn_r _ [54, 6, 55, 13, 14, 10, 15, 16, 56, 57, 58, 59, 31, 32, 33, 34, 35, 36, 12, 60, 61, 62, 63, 24, 25, 26, 27, 28, 29, 30, 37, 38, 39, 40, 41, 42, 43, 44, 64, 65, 66, 67, 68, 69, 70, 71, 72, 73, 74, 75] (by decide +kernel) (by decide +kernel)
set_option maxRecDepth 20000 in
theorem gL_isObstacle_X6_sees : GoodIn wsL_isObstacle (wsV RL 55 RX6 yX6_sees wsX6_sees) := goodIn_app (goodIn_of _ (by decide +kernel)) ggL_isObstacle_X6_sees
set_option maxRecDepth 20000 in
theorem ggL_areShadows_L_grounds : GoodIn wsL_areShadows wsL_grounds := goodIn_r _ [4, 5, 6, 3, 7, 8, 9, 10] (by decide +kernel) (by decide +kernel)
set_option maxRecDepth 20000 in
theorem gL_areShadows_L_grounds : GoodIn wsL_areShadows (va_wsS RL 57 yL_grounds wsL_grounds) := goodIn_app (goodIn_of _ (by decide +kernel)) ggL_areShadows_L_grounds
set_option maxRecDepth 20000 in
theorem ggL_areShadows_X6_shadow : GoodIn wsL_areShadows wsX6_shadow := goodIn_r _ [15, 16, 17, 18, 19, 20, 21, 22, 23, 24, 14, 25, 26, 27, 28, 29, 30, 31, 32, 33, 34, 35, 36, 37, 38, 39, 40, 41, 42, 43, 44, 45, 46, 47, 48, 49, 50, 51, 52, 53, 54, 55, 56, 57, 58, 59, 60, 61, 62, 63, 64, 65, 66, 67, 68, 69, 70, 71, 72, 73, 74, 75, 76, 77] (by decide +kernel) (by decide +kernel)
set_option maxRecDepth 20000 in
theorem gL_areShadows_X6_shadow : GoodIn wsL_areShadows (wsV RL 60 RX6 yX6_shadow wsX6_shadow) := goodIn_app (goodIn_of _ (by decide +kernel)) ggL_areShadows_X6_shadow
