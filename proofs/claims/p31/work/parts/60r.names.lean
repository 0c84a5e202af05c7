theorem ggL_law_L_isTold : GoodIn wsL_law wsL_isTold := goodIn_app pc_isTold_0 (goodIn_app (goodIn_app (goodIn_app (goodIn_app (goodIn_app (goodIn_app pc_isTold_1 (goodIn_app pc_isTold_2 (goodIn_app pc_isTold_3 (goodIn_app pc_isTold_4 (goodIn_app pc_isTold_5 (goodIn_app pc_isTold_6 pc_isTold_7)))))) pc_isTold_8) pc_isTold_9) pc_isTold_10) pc_isTold_11) pc_isTold_12)
set_option maxRecDepth 20000 in
theorem gL_law_L_isTold : GoodIn wsL_law (va_wsS RL 91 yL_isTold wsL_isTold) := goodIn_app (goodIn_of _ (by decide +kernel)) ggL_law_L_isTold
theorem ggL_law_L_isObstacle : GoodIn wsL_law wsL_isObstacle := goodIn_app pc_isObstacle_0 (goodIn_app (goodIn_app (goodIn_app pc_isObstacle_1 (goodIn_app pc_isObstacle_2 pc_isObstacle_3)) pc_isObstacle_4) pc_isObstacle_5)
set_option maxRecDepth 20000 in
theorem gL_law_L_isObstacle : GoodIn wsL_law (va_wsS RL 95 yL_isObstacle wsL_isObstacle) := goodIn_app (goodIn_of _ (by decide +kernel)) ggL_law_L_isObstacle
theorem ggL_law_L_changes : GoodIn wsL_law wsL_changes := goodIn_app pc_changes_0 (goodIn_app (goodIn_app (goodIn_app (goodIn_app pc_changes_1 (goodIn_app pc_changes_2 (goodIn_app pc_changes_3 pc_changes_4))) pc_changes_5) pc_changes_6) pc_changes_7)
set_option maxRecDepth 20000 in
theorem gL_law_L_changes : GoodIn wsL_law (va_wsS RL 99 yL_changes wsL_changes) := goodIn_app (goodIn_of _ (by decide +kernel)) ggL_law_L_changes
