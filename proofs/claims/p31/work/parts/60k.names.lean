set_option maxRecDepth 20000 in
theorem pc_isTold_4 : GoodIn wsL_law (wsL_isTold_r4) := goodIn_r _ [141, 142, 41, 257, 258, 259, 260, 261, 262, 263, 264, 265, 266, 267, 268, 269, 270, 271, 175, 176, 177, 272, 273, 274] (by decide +kernel) (by decide +kernel)
set_option maxRecDepth 20000 in
theorem pc_isTold_5 : GoodIn wsL_law (wsL_isTold_r5) := goodIn_r _ [275, 276, 277, 278, 279, 165, 166, 143, 144, 145, 146, 30, 147, 148, 149, 29, 150, 151, 71, 72, 152, 67, 69, 68] (by decide +kernel) (by decide +kernel)
set_option maxRecDepth 20000 in
theorem pc_isTold_6 : GoodIn wsL_law (wsL_isTold_r6) := goodIn_r _ [153, 154, 155, 156, 157, 158, 159, 160, 161, 162, 163, 164, 167, 168, 169, 170, 135, 136, 137, 138, 82, 139, 78, 79] (by decide +kernel) (by decide +kernel)
set_option maxRecDepth 20000 in
theorem pc_isTold_7 : GoodIn wsL_law (wsL_isTold_r7) := goodIn_r _ [80, 81, 83, 84, 18, 85, 22, 86, 87, 88, 89, 90, 91, 92, 93, 94, 95, 125, 126, 127, 128] (by decide +kernel) (by decide +kernel)
