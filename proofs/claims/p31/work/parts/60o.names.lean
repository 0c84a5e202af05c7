set_option maxRecDepth 20000 in
theorem pc_isObstacle_4 : GoodIn wsL_law (wsX60) := goodIn_r _ [316, 317, 318, 319, 320, 321, 322] (by decide +kernel) (by decide +kernel)
set_option maxRecDepth 20000 in
theorem pc_isObstacle_5 : GoodIn wsL_law (wsX30) := goodIn_r _ [323, 324, 325, 326, 327] (by decide +kernel) (by decide +kernel)
