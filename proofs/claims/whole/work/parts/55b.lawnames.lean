set_option maxRecDepth 20000 in
theorem ggL_law_X6_mast : GoodIn wsL_law wsX6_mast := goodIn_r _ [170, 15, 20, 171, 142, 143, 144, 14, 145, 43, 98, 99, 2, 100, 101, 102, 103, 19, 104, 51, 53, 52, 105, 106, 107, 108, 109, 110, 111, 112, 44, 45, 113, 114, 115, 116, 41, 42, 704, 705, 706, 707, 708, 709, 710, 726, 727, 728, 729, 730, 731, 732, 733] (by decide +kernel) (by decide +kernel)
set_option maxRecDepth 20000 in
theorem gL_law_X6_mast : GoodIn wsL_law (wsV RL 26 RX6 yX6_mast wsX6_mast) := goodIn_app (goodIn_of _ (by decide +kernel)) ggL_law_X6_mast
set_option maxRecDepth 20000 in
theorem ggL_law_X7_mast : GoodIn wsL_law wsX7_mast := goodIn_r _ [175, 85, 150, 151, 152, 5, 153, 129, 130, 131, 132, 133, 134, 135, 136, 86, 711, 712, 713, 714, 715, 716, 717, 718, 719, 720, 721, 722, 723, 724, 725] (by decide +kernel) (by decide +kernel)
set_option maxRecDepth 20000 in
theorem gL_law_X7_mast : GoodIn wsL_law (wsV RL 29 RX7 yX7_mast wsX7_mast) := goodIn_app (goodIn_of _ (by decide +kernel)) ggL_law_X7_mast
set_option maxRecDepth 20000 in
theorem ggL_law_X6_reverse : GoodIn wsL_law wsX6_reverse := goodIn_r _ [179, 20, 15, 16, 101, 102, 103, 19, 104, 51, 53, 52, 105, 106, 107, 108, 109, 110, 111, 14, 112, 44, 45, 113, 114, 115, 116, 43, 41, 42, 180, 181, 182, 183, 184, 704, 705, 706, 707, 708, 709, 710, 731, 732, 733, 726, 727, 728, 729, 730] (by decide +kernel) (by decide +kernel)
set_option maxRecDepth 20000 in
theorem gL_law_X6_reverse : GoodIn wsL_law (wsV RL 30 RX6 yX6_reverse wsX6_reverse) := goodIn_app (goodIn_of _ (by decide +kernel)) ggL_law_X6_reverse
set_option maxRecDepth 20000 in
theorem ggL_law_X7_reverse : GoodIn wsL_law wsX7_reverse := goodIn_r _ [188, 85, 132, 133, 134, 5, 135, 136, 86, 711, 712, 713, 714, 715, 716, 717, 718, 719, 720, 721, 722, 723, 724, 725] (by decide +kernel) (by decide +kernel)
set_option maxRecDepth 20000 in
theorem gL_law_X7_reverse : GoodIn wsL_law (wsV RL 34 RX7 yX7_reverse wsX7_reverse) := goodIn_app (goodIn_of _ (by decide +kernel)) ggL_law_X7_reverse
set_option maxRecDepth 20000 in
theorem ggL_law_X6_setRange : GoodIn wsL_law wsX6_setRange := goodIn_r _ [192, 20, 15, 193, 98, 99, 2, 100, 101, 102, 103, 19, 104, 51, 53, 52, 105, 106, 107, 108, 109, 110, 111, 14, 112, 44, 45, 113, 114, 115, 116, 43, 41, 42, 704, 705, 706, 707, 708, 709, 710, 726, 727, 728, 729, 730, 731, 732, 733] (by decide +kernel) (by decide +kernel)
set_option maxRecDepth 20000 in
theorem gL_law_X6_setRange : GoodIn wsL_law (wsV RL 35 RX6 yX6_setRange wsX6_setRange) := goodIn_app (goodIn_of _ (by decide +kernel)) ggL_law_X6_setRange
set_option maxRecDepth 20000 in
theorem ggL_law_X7_setRange : GoodIn wsL_law wsX7_setRange := goodIn_r _ [197, 85, 129, 130, 5, 131, 132, 133, 134, 135, 136, 86, 711, 712, 713, 714, 715, 716, 717, 718, 719, 720, 721, 722, 723, 724, 725] (by decide +kernel) (by decide +kernel)
set_option maxRecDepth 20000 in
theorem gL_law_X7_setRange : GoodIn wsL_law (wsV RL 39 RX7 yX7_setRange wsX7_setRange) := goodIn_app (goodIn_of _ (by decide +kernel)) ggL_law_X7_setRange
set_option maxRecDepth 20000 in
theorem ggL_law_X6_setBulge : GoodIn wsL_law wsX6_setBulge := goodIn_r _ [201, 20, 15, 202, 98, 99, 2, 100, 101, 102, 103, 19, 104, 51, 53, 52, 105, 106, 107, 108, 109, 110, 111, 14, 112, 44, 45, 113, 114, 115, 116, 43, 41, 42, 704, 705, 706, 707, 708, 709, 710, 726, 727, 728, 729, 730, 731, 732, 733] (by decide +kernel) (by decide +kernel)
set_option maxRecDepth 20000 in
theorem gL_law_X6_setBulge : GoodIn wsL_law (wsV RL 40 RX6 yX6_setBulge wsX6_setBulge) := goodIn_app (goodIn_of _ (by decide +kernel)) ggL_law_X6_setBulge
set_option maxRecDepth 20000 in
theorem ggL_law_X7_setBulge : GoodIn wsL_law wsX7_setBulge := goodIn_r _ [206, 85, 129, 130, 5, 131, 132, 133, 134, 135, 136, 86, 711, 712, 713, 714, 715, 716, 717, 718, 719, 720, 721, 722, 723, 724, 725] (by decide +kernel) (by decide +kernel)
set_option maxRecDepth 20000 in
theorem gL_law_X7_setBulge : GoodIn wsL_law (wsV RL 43 RX7 yX7_setBulge wsX7_setBulge) := goodIn_app (goodIn_of _ (by decide +kernel)) ggL_law_X7_setBulge
