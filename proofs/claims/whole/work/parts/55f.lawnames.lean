set_option maxRecDepth 20000 in
theorem ggL_law_X6_chain : GoodIn wsL_law wsX6_chain := goodIn_r _ [478, 15, 32, 28, 479, 142, 143, 144, 14, 145, 43, 480, 481, 482, 31, 483, 484, 74, 75, 485, 70, 72, 71, 486, 320, 321, 322, 41, 42, 162, 487, 488, 489, 490, 491, 332, 107, 333, 492, 493, 336, 337, 338, 339, 340, 341, 342, 106, 108, 343, 344, 345, 346, 331, 45, 494, 495, 496, 497, 73, 498, 499, 500, 501, 502, 503, 504, 505, 506, 507, 460, 2, 461, 508, 509, 510, 27, 511, 66, 512, 513, 514, 515, 65, 516, 517, 518, 519, 704, 705, 706, 707, 708, 709, 710, 738, 739, 726, 727, 728, 729, 730, 740, 741, 742, 743, 744, 745] (by decide +kernel) (by decide +kernel)
set_option maxRecDepth 20000 in
theorem gL_law_X6_chain : GoodIn wsL_law (wsV RL 93 RX6 yX6_chain wsX6_chain) := goodIn_app (goodIn_of _ (by decide +kernel)) ggL_law_X6_chain
set_option maxRecDepth 20000 in
theorem ggL_law_X7_chain : GoodIn wsL_law wsX7_chain := goodIn_r _ [523, 92, 88, 87, 85, 150, 151, 152, 5, 153, 129, 130, 131, 524, 525, 526, 527, 367, 368, 369, 370, 371, 372, 373, 374, 375, 376, 377, 359, 360, 361, 362, 378, 379, 380, 381, 382, 383, 384, 385, 711, 712, 713, 714, 715, 716, 717, 718, 719, 720, 721, 722, 723, 724, 725] (by decide +kernel) (by decide +kernel)
set_option maxRecDepth 20000 in
theorem gL_law_X7_chain : GoodIn wsL_law (wsV RL 96 RX7 yX7_chain wsX7_chain) := goodIn_app (goodIn_of _ (by decide +kernel)) ggL_law_X7_chain
set_option maxRecDepth 20000 in
theorem ggL_law_X6_newMasts : GoodIn wsL_law wsX6_newMasts := goodIn_r _ [531, 15, 32, 28, 142, 143, 144, 14, 145, 43, 98, 99, 2, 100, 480, 481, 482, 31, 483, 484, 74, 75, 485, 70, 72, 71, 486, 320, 321, 322, 41, 42, 162, 487, 488, 489, 490, 491, 332, 107, 333, 492, 493, 336, 337, 338, 339, 340, 341, 342, 106, 108, 343, 344, 345, 346, 331, 45, 494, 495, 496, 497, 73, 498, 499, 500, 501, 502, 503, 504, 505, 506, 507, 460, 461, 508, 509, 510, 27, 511, 66, 512, 513, 514, 515, 65, 516, 517, 518, 519, 532, 533, 534, 535, 536, 537, 704, 705, 706, 707, 708, 709, 710, 726, 727, 728, 729, 730, 740, 741, 742, 743, 744, 745, 738, 739] (by decide +kernel) (by decide +kernel)
set_option maxRecDepth 20000 in
theorem gL_law_X6_newMasts : GoodIn wsL_law (wsV RL 97 RX6 yX6_newMasts wsX6_newMasts) := goodIn_app (goodIn_of _ (by decide +kernel)) ggL_law_X6_newMasts
set_option maxRecDepth 20000 in
theorem ggL_law_X7_newMasts : GoodIn wsL_law wsX7_newMasts := goodIn_r _ [541, 92, 88, 87, 85, 150, 151, 152, 5, 153, 129, 130, 131, 542, 543, 544, 545, 546, 547, 548, 549, 550, 551, 552, 553, 359, 360, 361, 362, 371, 372, 373, 378, 379, 380, 381, 382, 383, 384, 385, 711, 712, 713, 714, 715, 716, 717, 718, 719, 720, 721, 722, 723, 724, 725] (by decide +kernel) (by decide +kernel)
set_option maxRecDepth 20000 in
theorem gL_law_X7_newMasts : GoodIn wsL_law (wsV RL 100 RX7 yX7_newMasts wsX7_newMasts) := goodIn_app (goodIn_of _ (by decide +kernel)) ggL_law_X7_newMasts
set_option maxRecDepth 20000 in
theorem ggL_law_X6_vital : GoodIn wsL_law wsX6_vital := goodIn_r _ [557, 15, 32, 558, 28, 142, 143, 144, 14, 145, 43, 480, 481, 482, 31, 483, 484, 74, 75, 485, 70, 72, 71, 486, 320, 321, 322, 41, 42, 162, 487, 488, 489, 490, 491, 332, 107, 333, 492, 493, 336, 337, 338, 339, 340, 341, 342, 106, 108, 343, 344, 345, 346, 331, 45, 559, 560, 561, 562, 563, 564, 565, 566, 460, 2, 461, 567, 568, 569, 570, 571, 572, 573, 574, 27, 575, 576, 509, 510, 511, 66, 577, 513, 514, 515, 65, 704, 705, 706, 707, 708, 709, 710, 740, 741, 742, 743, 744, 745, 726, 727, 728, 729, 730, 738, 739] (by decide +kernel) (by decide +kernel)
set_option maxRecDepth 20000 in
theorem gL_law_X6_vital : GoodIn wsL_law (wsV RL 101 RX6 yX6_vital wsX6_vital) := goodIn_app (goodIn_of _ (by decide +kernel)) ggL_law_X6_vital
set_option maxRecDepth 20000 in
theorem ggL_law_X7_vital : GoodIn wsL_law wsX7_vital := goodIn_r _ [581, 85, 150, 151, 152, 5, 153, 129, 130, 131, 582, 583, 584, 585, 92, 524, 525, 526, 527, 367, 368, 369, 370, 371, 372, 373, 374, 375, 376, 377, 359, 360, 361, 362, 378, 379, 380, 381, 382, 383, 384, 385, 586, 587, 588, 589, 88, 87, 711, 712, 713, 714, 715, 716, 717, 718, 719, 720, 721, 722, 723, 724, 725] (by decide +kernel) (by decide +kernel)
set_option maxRecDepth 20000 in
theorem gL_law_X7_vital : GoodIn wsL_law (wsV RL 104 RX7 yX7_vital wsX7_vital) := goodIn_app (goodIn_of _ (by decide +kernel)) ggL_law_X7_vital
set_option maxRecDepth 20000 in
theorem ggL_law_X6_finding : GoodIn wsL_law wsX6_finding := goodIn_r _ [593, 28, 479, 594, 704, 705, 706, 707, 708, 709, 710, 738, 739] (by decide +kernel) (by decide +kernel)
set_option maxRecDepth 20000 in
theorem gL_law_X6_finding : GoodIn wsL_law (wsV RL 105 RX6 yX6_finding wsX6_finding) := goodIn_app (goodIn_of _ (by decide +kernel)) ggL_law_X6_finding
set_option maxRecDepth 20000 in
theorem ggL_law_X7_finding : GoodIn wsL_law wsX7_finding := goodIn_r _ [598, 88, 87, 711, 712, 713, 714, 715, 716, 717, 718, 719, 720, 721, 722, 723, 724, 725] (by decide +kernel) (by decide +kernel)
set_option maxRecDepth 20000 in
theorem gL_law_X7_finding : GoodIn wsL_law (wsV RL 108 RX7 yX7_finding wsX7_finding) := goodIn_app (goodIn_of _ (by decide +kernel)) ggL_law_X7_finding
