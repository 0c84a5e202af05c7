set_option maxRecDepth 20000 in
theorem pc_isTold_8 : GoodIn wsL_law (wsX60) := goodIn_r _ [316, 317, 318, 319, 320, 321, 322] (by decide +kernel) (by decide +kernel)
set_option maxRecDepth 20000 in
theorem pc_isTold_9 : GoodIn wsL_law (wsX30) := goodIn_r _ [323, 324, 325, 326, 327] (by decide +kernel) (by decide +kernel)
set_option maxRecDepth 20000 in
theorem pc_isTold_10 : GoodIn wsL_law (wsX40) := goodIn_r _ [337, 338, 339, 340, 341, 342] (by decide +kernel) (by decide +kernel)
set_option maxRecDepth 20000 in
theorem pc_isTold_11 : GoodIn wsL_law (wsX20) := goodIn_r _ [328, 329, 330] (by decide +kernel) (by decide +kernel)
