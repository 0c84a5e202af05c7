set_option maxRecDepth 20000 in
theorem ggL_isTold_L_sees : GoodIn wsL_isTold wsL_sees := goodIn_r _ [5, 6, 7, 4, 8, 9, 10, 11] (by decide +kernel) (by decide +kernel)
set_option maxRecDepth 20000 in
theorem gL_isTold_L_sees : GoodIn wsL_isTold (va_wsS RL 19 yL_sees wsL_sees) := goodIn_app (goodIn_of _ (by decide +kernel)) ggL_isTold_L_sees
set_option maxRecDepth 20000 in
theorem ggL_isTold_L_contact : GoodIn wsL_isTold wsL_contact := goodIn_r _ [14, 2, 3, 4, 5, 6, 7, 8, 9, 10, 11] (by decide +kernel) (by decide +kernel)
set_option maxRecDepth 20000 in
theorem gL_isTold_L_contact : GoodIn wsL_isTold (va_wsS RL 63 yL_contact wsL_contact) := goodIn_app (goodIn_of _ (by decide +kernel)) ggL_isTold_L_contact
set_option maxRecDepth 20000 in
theorem ggL_isTold_X6_sees : GoodIn wsL_isTold wsX6_sees := goodIn_r _ [19, 20, 21, 22, 23, 24, 25, 26, 27, 28, 29, 30, 31, 32, 33, 34, 35, 36, 37, 38, 39, 40, 41, 42, 43, 44, 45, 46, 47, 48, 49, 50, 51, 52, 53, 54, 55, 56, 166, 167, 168, 169, 170, 171, 172, 173, 174, 175, 176, 177] (by decide +kernel) (by decide +kernel)
set_option maxRecDepth 20000 in
theorem gL_isTold_X6_sees : GoodIn wsL_isTold (wsV RL 55 RX6 yX6_sees wsX6_sees) := goodIn_app (goodIn_of _ (by decide +kernel)) ggL_isTold_X6_sees
set_option maxRecDepth 20000 in
theorem ggL_isTold_L_grounds : GoodIn wsL_isTold wsL_grounds := goodIn_r _ [59, 6, 7, 4, 8, 9, 10, 11] (by decide +kernel) (by decide +kernel)
set_option maxRecDepth 20000 in
theorem gL_isTold_L_grounds : GoodIn wsL_isTold (va_wsS RL 57 yL_grounds wsL_grounds) := goodIn_app (goodIn_of _ (by decide +kernel)) ggL_isTold_L_grounds
set_option maxRecDepth 20000 in
theorem ggL_isTold_L_top : GoodIn wsL_isTold wsL_top := goodIn_r _ [8] (by decide +kernel) (by decide +kernel)
set_option maxRecDepth 20000 in
theorem gL_isTold_L_top : GoodIn wsL_isTold (va_wsS RL 9 yL_top wsL_top) := goodIn_app (goodIn_of _ (by decide +kernel)) ggL_isTold_L_top
set_option maxRecDepth 20000 in
theorem ggL_isTold_X6_station : GoodIn wsL_isTold wsX6_station := goodIn_r _ [63, 20, 64, 65, 21, 22, 23, 24, 25, 26, 66, 32, 33, 34, 35, 36, 37, 67, 68, 69, 70, 71, 72, 73, 74, 53, 54, 44, 55, 75, 31, 38, 39, 40, 41, 42, 43, 45, 46, 47, 48, 49, 50, 51, 52, 56, 76, 77, 78, 79, 80, 81, 82, 83, 166, 167, 168, 169, 170, 171, 172, 173, 174, 175, 176, 177] (by decide +kernel) (by decide +kernel)
set_option maxRecDepth 20000 in
theorem gL_isTold_X6_station : GoodIn wsL_isTold (wsV RL 66 RX6 yX6_station wsX6_station) := goodIn_app (goodIn_of _ (by decide +kernel)) ggL_isTold_X6_station
