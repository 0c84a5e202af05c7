set_option maxRecDepth 20000 in
theorem pc_changes_4 : GoodIn wsL_law (wsL_changes_r4) := goodIn_r _ [213, 214, 83, 215, 216, 217, 218, 84] (by decide +kernel) (by decide +kernel)
set_option maxRecDepth 20000 in
theorem pc_changes_5 : GoodIn wsL_law (wsX60) := goodIn_r _ [316, 317, 318, 319, 320, 321, 322] (by decide +kernel) (by decide +kernel)
set_option maxRecDepth 20000 in
theorem pc_changes_6 : GoodIn wsL_law (wsX30) := goodIn_r _ [323, 324, 325, 326, 327] (by decide +kernel) (by decide +kernel)
set_option maxRecDepth 20000 in
theorem pc_changes_7 : GoodIn wsL_law (wsX20) := goodIn_r _ [328, 329, 330] (by decide +kernel) (by decide +kernel)
