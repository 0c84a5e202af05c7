set_option maxRecDepth 20000 in
theorem pc_isTold_12 : GoodIn wsL_law (wsX50) := goodIn_r _ [331, 332, 333, 334] (by decide +kernel) (by decide +kernel)
