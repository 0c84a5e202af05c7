set_option maxRecDepth 20000 in
theorem ggL_law_X6_neededMast : GoodIn wsL_law wsX6_neededMast := goodIn_r _ [430, 15, 141, 410, 411, 412, 14, 413, 162, 143, 144, 145, 43, 319, 320, 321, 322, 41, 42, 431, 336, 337, 338, 339, 340, 107, 341, 342, 106, 108, 343, 344, 345, 346, 331, 332, 333, 45, 704, 705, 706, 707, 708, 709, 710, 726, 727, 728, 729, 730] (by decide +kernel) (by decide +kernel)
set_option maxRecDepth 20000 in
theorem gL_law_X6_neededMast : GoodIn wsL_law (wsV RL 77 RX6 yX6_neededMast wsX6_neededMast) := goodIn_app (goodIn_of _ (by decide +kernel)) ggL_law_X6_neededMast
set_option maxRecDepth 20000 in
theorem ggL_law_X7_neededMast : GoodIn wsL_law wsX7_neededMast := goodIn_r _ [435, 85, 423, 424, 425, 5, 426, 150, 151, 152, 153, 129, 130, 131, 359, 360, 361, 362, 378, 379, 380, 381, 382, 383, 384, 385, 711, 712, 713, 714, 715, 716, 717, 718, 719, 720, 721, 722, 723, 724, 725] (by decide +kernel) (by decide +kernel)
set_option maxRecDepth 20000 in
theorem gL_law_X7_neededMast : GoodIn wsL_law (wsV RL 80 RX7 yX7_neededMast wsX7_neededMast) := goodIn_app (goodIn_of _ (by decide +kernel)) ggL_law_X7_neededMast
set_option maxRecDepth 20000 in
theorem ggL_law_X6_growth : GoodIn wsL_law wsX6_growth := goodIn_r _ [439, 15, 171, 410, 411, 412, 14, 413, 162, 143, 144, 145, 43, 98, 99, 2, 100, 440, 441, 442, 443, 334, 320, 321, 322, 41, 42, 335, 336, 337, 338, 339, 340, 107, 341, 342, 106, 108, 343, 344, 345, 346, 331, 332, 333, 45, 704, 705, 706, 707, 708, 709, 710, 726, 727, 728, 729, 730] (by decide +kernel) (by decide +kernel)
set_option maxRecDepth 20000 in
theorem gL_law_X6_growth : GoodIn wsL_law (wsV RL 81 RX6 yX6_growth wsX6_growth) := goodIn_app (goodIn_of _ (by decide +kernel)) ggL_law_X6_growth
set_option maxRecDepth 20000 in
theorem ggL_law_X7_growth : GoodIn wsL_law wsX7_growth := goodIn_r _ [447, 85, 423, 424, 425, 5, 426, 150, 151, 152, 153, 129, 130, 131, 359, 360, 361, 362, 378, 379, 380, 381, 382, 383, 384, 385, 711, 712, 713, 714, 715, 716, 717, 718, 719, 720, 721, 722, 723, 724, 725] (by decide +kernel) (by decide +kernel)
set_option maxRecDepth 20000 in
theorem gL_law_X7_growth : GoodIn wsL_law (wsV RL 84 RX7 yX7_growth wsX7_growth) := goodIn_app (goodIn_of _ (by decide +kernel)) ggL_law_X7_growth
set_option maxRecDepth 20000 in
theorem ggL_law_X6_shadow : GoodIn wsL_law wsX6_shadow := goodIn_r _ [451, 15, 142, 143, 144, 14, 145, 43, 98, 99, 2, 100, 452, 453, 454, 455, 319, 320, 321, 322, 41, 42, 162, 347, 348, 349, 350, 335, 336, 337, 338, 339, 340, 107, 341, 342, 106, 108, 343, 344, 345, 346, 331, 332, 333, 45, 456, 457, 458, 459, 460, 461, 704, 705, 706, 707, 708, 709, 710, 726, 727, 728, 729, 730] (by decide +kernel) (by decide +kernel)
set_option maxRecDepth 20000 in
theorem gL_law_X6_shadow : GoodIn wsL_law (wsV RL 85 RX6 yX6_shadow wsX6_shadow) := goodIn_app (goodIn_of _ (by decide +kernel)) ggL_law_X6_shadow
set_option maxRecDepth 20000 in
theorem ggL_law_X7_shadow : GoodIn wsL_law wsX7_shadow := goodIn_r _ [465, 85, 150, 151, 152, 5, 153, 129, 130, 131, 359, 360, 361, 362, 386, 387, 388, 389, 378, 379, 380, 381, 382, 383, 384, 385, 711, 712, 713, 714, 715, 716, 717, 718, 719, 720, 721, 722, 723, 724, 725] (by decide +kernel) (by decide +kernel)
set_option maxRecDepth 20000 in
theorem gL_law_X7_shadow : GoodIn wsL_law (wsV RL 88 RX7 yX7_shadow wsX7_shadow) := goodIn_app (goodIn_of _ (by decide +kernel)) ggL_law_X7_shadow
set_option maxRecDepth 20000 in
theorem ggL_law_X6_farthest : GoodIn wsL_law wsX6_farthest := goodIn_r _ [469, 15, 308, 470, 328, 329, 14, 330, 331, 332, 107, 333, 44, 334, 320, 321, 322, 41, 42, 162, 143, 144, 145, 43, 335, 336, 337, 338, 339, 340, 341, 342, 106, 108, 343, 344, 345, 346, 45, 704, 705, 706, 707, 708, 709, 710, 726, 727, 728, 729, 730] (by decide +kernel) (by decide +kernel)
set_option maxRecDepth 20000 in
theorem gL_law_X6_farthest : GoodIn wsL_law (wsV RL 89 RX6 yX6_farthest wsX6_farthest) := goodIn_app (goodIn_of _ (by decide +kernel)) ggL_law_X6_farthest
set_option maxRecDepth 20000 in
theorem ggL_law_X7_farthest : GoodIn wsL_law wsX7_farthest := goodIn_r _ [474, 85, 367, 368, 369, 5, 370, 371, 372, 373, 374, 375, 376, 377, 359, 360, 361, 362, 378, 379, 380, 381, 382, 383, 384, 385, 711, 712, 713, 714, 715, 716, 717, 718, 719, 720, 721, 722, 723, 724, 725] (by decide +kernel) (by decide +kernel)
set_option maxRecDepth 20000 in
theorem gL_law_X7_farthest : GoodIn wsL_law (wsV RL 92 RX7 yX7_farthest wsX7_farthest) := goodIn_app (goodIn_of _ (by decide +kernel)) ggL_law_X7_farthest
