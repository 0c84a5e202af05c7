set_option maxRecDepth 20000 in
theorem ggL_law_X6_groups : GoodIn wsL_law wsX6_groups := goodIn_r _ [602, 32, 15, 480, 481, 482, 31, 483, 484, 74, 75, 485, 70, 72, 71, 486, 320, 321, 14, 322, 41, 42, 162, 143, 144, 145, 43, 487, 488, 489, 490, 491, 332, 107, 333, 492, 493, 336, 337, 338, 339, 340, 341, 342, 106, 108, 343, 344, 345, 346, 331, 45, 603, 604, 605, 606, 460, 2, 461, 563, 564, 565, 566, 704, 705, 706, 707, 708, 709, 710, 726, 727, 728, 729, 730, 740, 741, 742, 743, 744, 745] (by decide +kernel) (by decide +kernel)
set_option maxRecDepth 20000 in
theorem gL_law_X6_groups : GoodIn wsL_law (wsV RL 109 RX6 yX6_groups wsX6_groups) := goodIn_app (goodIn_of _ (by decide +kernel)) ggL_law_X6_groups
set_option maxRecDepth 20000 in
theorem ggL_law_X7_groups : GoodIn wsL_law wsX7_groups := goodIn_r _ [610, 85, 363, 364, 365, 5, 366, 367, 368, 369, 370, 371, 372, 373, 374, 375, 376, 377, 359, 360, 361, 362, 378, 379, 380, 381, 382, 383, 384, 385, 711, 712, 713, 714, 715, 716, 717, 718, 719, 720, 721, 722, 723, 724, 725] (by decide +kernel) (by decide +kernel)
set_option maxRecDepth 20000 in
theorem gL_law_X7_groups : GoodIn wsL_law (wsV RL 112 RX7 yX7_groups wsX7_groups) := goodIn_app (goodIn_of _ (by decide +kernel)) ggL_law_X7_groups
set_option maxRecDepth 20000 in
theorem ggL_law_X6_watch : GoodIn wsL_law wsX6_watch := goodIn_r _ [614, 36, 15, 28, 98, 99, 2, 100, 615, 616, 617, 35, 618, 619, 79, 620, 80, 621, 348, 349, 14, 350, 43, 41, 335, 336, 337, 338, 339, 340, 107, 341, 342, 106, 108, 343, 344, 345, 346, 331, 332, 333, 45, 162, 143, 144, 145, 622, 453, 454, 455, 623, 624, 625, 572, 573, 574, 27, 575, 576, 509, 510, 511, 66, 460, 461, 577, 513, 514, 515, 65, 704, 705, 706, 707, 708, 709, 710, 726, 727, 728, 729, 730, 746, 747, 738, 739] (by decide +kernel) (by decide +kernel)
set_option maxRecDepth 20000 in
theorem gL_law_X6_watch : GoodIn wsL_law (wsV RL 113 RX6 yX6_watch wsX6_watch) := goodIn_app (goodIn_of _ (by decide +kernel)) ggL_law_X6_watch
set_option maxRecDepth 20000 in
theorem ggL_law_X7_watch : GoodIn wsL_law wsX7_watch := goodIn_r _ [629, 85, 93, 129, 130, 5, 131, 386, 387, 388, 389, 378, 379, 380, 381, 382, 383, 384, 385, 630, 631, 632, 633, 586, 587, 588, 589, 88, 87, 711, 712, 713, 714, 715, 716, 717, 718, 719, 720, 721, 722, 723, 724, 725] (by decide +kernel) (by decide +kernel)
set_option maxRecDepth 20000 in
theorem gL_law_X7_watch : GoodIn wsL_law (wsV RL 116 RX7 yX7_watch wsX7_watch) := goodIn_app (goodIn_of _ (by decide +kernel)) ggL_law_X7_watch
set_option maxRecDepth 20000 in
theorem ggL_law_X6_watched : GoodIn wsL_law wsX6_watched := goodIn_r _ [637, 15, 308, 452, 453, 454, 14, 455, 43, 459, 460, 2, 461, 319, 320, 321, 322, 41, 42, 162, 143, 144, 145, 347, 348, 349, 350, 335, 336, 337, 338, 339, 340, 107, 341, 342, 106, 108, 343, 344, 345, 346, 331, 332, 333, 45, 638, 639, 640, 641, 642, 643, 644, 704, 705, 706, 707, 708, 709, 710, 726, 727, 728, 729, 730] (by decide +kernel) (by decide +kernel)
set_option maxRecDepth 20000 in
theorem gL_law_X6_watched : GoodIn wsL_law (wsV RL 117 RX6 yX6_watched wsX6_watched) := goodIn_app (goodIn_of _ (by decide +kernel)) ggL_law_X6_watched
set_option maxRecDepth 20000 in
theorem ggL_law_X7_watched : GoodIn wsL_law wsX7_watched := goodIn_r _ [648, 85, 359, 360, 361, 5, 362, 386, 387, 388, 389, 378, 379, 380, 381, 382, 383, 384, 385, 711, 712, 713, 714, 715, 716, 717, 718, 719, 720, 721, 722, 723, 724, 725] (by decide +kernel) (by decide +kernel)
set_option maxRecDepth 20000 in
theorem gL_law_X7_watched : GoodIn wsL_law (wsV RL 120 RX7 yX7_watched wsX7_watched) := goodIn_app (goodIn_of _ (by decide +kernel)) ggL_law_X7_watched
set_option maxRecDepth 20000 in
theorem ggL_law_X6_count : GoodIn wsL_law wsX6_count := goodIn_r _ [652, 15, 308, 193, 202, 20, 211, 24, 224, 653, 654, 655, 14, 656, 43, 42, 657, 658, 659, 660, 661, 399, 400, 401, 334, 320, 321, 322, 41, 162, 143, 144, 145, 335, 336, 337, 338, 339, 340, 107, 341, 342, 106, 108, 343, 344, 345, 346, 331, 332, 333, 45, 662, 663, 664, 665, 704, 705, 706, 707, 708, 709, 710, 726, 727, 728, 729, 730, 731, 732, 733, 734, 735, 736, 737] (by decide +kernel) (by decide +kernel)
set_option maxRecDepth 20000 in
theorem gL_law_X6_count : GoodIn wsL_law (wsV RL 121 RX6 yX6_count wsX6_count) := goodIn_app (goodIn_of _ (by decide +kernel)) ggL_law_X6_count
set_option maxRecDepth 20000 in
theorem ggL_law_X7_count : GoodIn wsL_law wsX7_count := goodIn_r _ [669, 85, 136, 233, 670, 671, 672, 5, 673, 674, 675, 676, 677, 374, 375, 376, 377, 359, 360, 361, 362, 378, 379, 380, 381, 382, 383, 384, 385, 711, 712, 713, 714, 715, 716, 717, 718, 719, 720, 721, 722, 723, 724, 725] (by decide +kernel) (by decide +kernel)
set_option maxRecDepth 20000 in
theorem gL_law_X7_count : GoodIn wsL_law (wsV RL 124 RX7 yX7_count wsX7_count) := goodIn_app (goodIn_of _ (by decide +kernel)) ggL_law_X7_count
