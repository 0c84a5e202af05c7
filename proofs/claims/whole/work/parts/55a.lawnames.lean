set_option maxRecDepth 20000 in
theorem ggL_law_X6_init : GoodIn wsL_law wsX6_init := goodIn_r _ [8, 9, 10, 11, 12, 13, 14, 15, 16, 17, 18, 19, 20, 21, 22, 23, 24, 25, 26, 27, 28, 29, 30, 31, 32, 33, 34, 35, 36, 37, 38, 39, 40, 41, 42, 43, 44, 45, 46, 47, 48, 49, 50, 51, 52, 53, 54, 55, 56, 57, 58, 59, 60, 61, 62, 63, 64, 65, 66, 67, 68, 69, 70, 71, 72, 73, 74, 75, 76, 77, 78, 79, 80, 726, 727, 728, 729, 730, 704, 705, 706, 707, 708, 709, 710, 731, 732, 733, 734, 735, 736, 737, 738, 739, 740, 741, 742, 743, 744, 745, 746, 747] (by decide +kernel) (by decide +kernel)
set_option maxRecDepth 20000 in
theorem gL_law_X6_init : GoodIn wsL_law (wsX6_init) := ggL_law_X6_init
set_option maxRecDepth 20000 in
theorem ggL_law_X7_init : GoodIn wsL_law wsX7_init := goodIn_r _ [83, 84, 10, 11, 40, 85, 86, 87, 88, 89, 90, 91, 92, 93, 711, 712, 713, 714, 715, 716, 717, 718, 719, 720, 721, 722, 723, 724, 725] (by decide +kernel) (by decide +kernel)
set_option maxRecDepth 20000 in
theorem gL_law_X7_init : GoodIn wsL_law (wsX7_init) := ggL_law_X7_init
set_option maxRecDepth 20000 in
theorem ggL_law_X6_reset : GoodIn wsL_law wsX6_reset := goodIn_r _ [97, 20, 15, 98, 99, 2, 100, 101, 102, 103, 19, 104, 51, 53, 52, 105, 106, 107, 108, 109, 110, 111, 14, 112, 44, 45, 113, 114, 115, 116, 43, 41, 42, 117, 118, 119, 120, 121, 122, 123, 124, 704, 705, 706, 707, 708, 709, 710, 731, 732, 733, 726, 727, 728, 729, 730] (by decide +kernel) (by decide +kernel)
set_option maxRecDepth 20000 in
theorem gL_law_X6_reset : GoodIn wsL_law (wsV RL 13 RX6 yX6_reset wsX6_reset) := goodIn_app (goodIn_of _ (by decide +kernel)) ggL_law_X6_reset
set_option maxRecDepth 20000 in
theorem ggL_law_X7_reset : GoodIn wsL_law wsX7_reset := goodIn_r _ [128, 85, 129, 130, 5, 131, 132, 133, 134, 135, 136, 86, 711, 712, 713, 714, 715, 716, 717, 718, 719, 720, 721, 722, 723, 724, 725] (by decide +kernel) (by decide +kernel)
set_option maxRecDepth 20000 in
theorem gL_law_X7_reset : GoodIn wsL_law (wsV RL 17 RX7 yX7_reset wsX7_reset) := goodIn_app (goodIn_of _ (by decide +kernel)) ggL_law_X7_reset
set_option maxRecDepth 20000 in
theorem ggL_law_X6_setGround : GoodIn wsL_law wsX6_setGround := goodIn_r _ [140, 15, 20, 141, 142, 143, 144, 14, 145, 43, 98, 99, 2, 100, 101, 102, 103, 19, 104, 51, 53, 52, 105, 106, 107, 108, 109, 110, 111, 112, 44, 45, 113, 114, 115, 116, 41, 42, 704, 705, 706, 707, 708, 709, 710, 726, 727, 728, 729, 730, 731, 732, 733] (by decide +kernel) (by decide +kernel)
set_option maxRecDepth 20000 in
theorem gL_law_X6_setGround : GoodIn wsL_law (wsV RL 18 RX6 yX6_setGround wsX6_setGround) := goodIn_app (goodIn_of _ (by decide +kernel)) ggL_law_X6_setGround
set_option maxRecDepth 20000 in
theorem ggL_law_X7_setGround : GoodIn wsL_law wsX7_setGround := goodIn_r _ [149, 85, 150, 151, 152, 5, 153, 129, 130, 131, 132, 133, 134, 135, 136, 86, 711, 712, 713, 714, 715, 716, 717, 718, 719, 720, 721, 722, 723, 724, 725] (by decide +kernel) (by decide +kernel)
set_option maxRecDepth 20000 in
theorem gL_law_X7_setGround : GoodIn wsL_law (wsV RL 21 RX7 yX7_setGround wsX7_setGround) := goodIn_app (goodIn_of _ (by decide +kernel)) ggL_law_X7_setGround
set_option maxRecDepth 20000 in
theorem ggL_law_X6_slope : GoodIn wsL_law wsX6_slope := goodIn_r _ [157, 15, 20, 142, 143, 144, 14, 145, 43, 101, 102, 103, 19, 104, 51, 53, 52, 105, 106, 107, 108, 109, 110, 111, 112, 44, 45, 113, 114, 115, 116, 41, 42, 158, 159, 160, 161, 162, 704, 705, 706, 707, 708, 709, 710, 726, 727, 728, 729, 730, 731, 732, 733] (by decide +kernel) (by decide +kernel)
set_option maxRecDepth 20000 in
theorem gL_law_X6_slope : GoodIn wsL_law (wsV RL 22 RX6 yX6_slope wsX6_slope) := goodIn_app (goodIn_of _ (by decide +kernel)) ggL_law_X6_slope
set_option maxRecDepth 20000 in
theorem ggL_law_X7_slope : GoodIn wsL_law wsX7_slope := goodIn_r _ [166, 85, 150, 151, 152, 5, 153, 129, 130, 131, 132, 133, 134, 135, 136, 86, 711, 712, 713, 714, 715, 716, 717, 718, 719, 720, 721, 722, 723, 724, 725] (by decide +kernel) (by decide +kernel)
set_option maxRecDepth 20000 in
theorem gL_law_X7_slope : GoodIn wsL_law (wsV RL 25 RX7 yX7_slope wsX7_slope) := goodIn_app (goodIn_of _ (by decide +kernel)) ggL_law_X7_slope
