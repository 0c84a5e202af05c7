set_option maxRecDepth 20000 in
theorem ggL_law_X6_load : GoodIn wsL_law wsX6_load := goodIn_r _ [307, 24, 16, 20, 15, 224, 308, 246, 247, 248, 23, 249, 60, 61, 59, 250, 118, 119, 14, 120, 43, 251, 252, 253, 254, 255, 256, 257, 258, 58, 259, 260, 261, 262, 263, 264, 265, 266, 267, 99, 2, 100, 268, 269, 270, 271, 272, 122, 123, 124, 41, 42, 101, 102, 103, 19, 104, 51, 53, 52, 105, 106, 107, 108, 109, 110, 111, 112, 44, 45, 113, 114, 115, 116, 309, 704, 705, 706, 707, 708, 709, 710, 734, 735, 736, 737, 726, 727, 728, 729, 730, 731, 732, 733] (by decide +kernel) (by decide +kernel)
set_option maxRecDepth 20000 in
theorem gL_law_X6_load : GoodIn wsL_law (wsV RL 60 RX6 yX6_load wsX6_load) := goodIn_app (goodIn_of _ (by decide +kernel)) ggL_law_X6_load
set_option maxRecDepth 20000 in
theorem ggL_law_X7_load : GoodIn wsL_law wsX7_load := goodIn_r _ [313, 278, 85, 90, 91, 233, 314, 274, 275, 5, 276, 277, 279, 280, 281, 282, 283, 284, 285, 286, 287, 89, 288, 289, 290, 291, 292, 293, 294, 295, 296, 297, 298, 299, 129, 130, 131, 300, 301, 302, 303, 132, 133, 134, 135, 136, 86, 711, 712, 713, 714, 715, 716, 717, 718, 719, 720, 721, 722, 723, 724, 725] (by decide +kernel) (by decide +kernel)
set_option maxRecDepth 20000 in
theorem gL_law_X7_load : GoodIn wsL_law (wsV RL 63 RX7 yX7_load wsX7_load) := goodIn_app (goodIn_of _ (by decide +kernel)) ggL_law_X7_load
set_option maxRecDepth 20000 in
theorem ggL_law_X6_station : GoodIn wsL_law wsX6_station := goodIn_r _ [318, 15, 141, 171, 142, 143, 144, 14, 145, 43, 319, 320, 321, 322, 41, 42, 162, 323, 324, 325, 326, 327, 328, 329, 330, 331, 332, 107, 333, 44, 334, 335, 336, 337, 338, 339, 340, 341, 342, 106, 108, 343, 344, 345, 346, 45, 347, 348, 349, 350, 351, 352, 353, 354, 704, 705, 706, 707, 708, 709, 710, 726, 727, 728, 729, 730] (by decide +kernel) (by decide +kernel)
set_option maxRecDepth 20000 in
theorem gL_law_X6_station : GoodIn wsL_law (wsV RL 64 RX6 yX6_station wsX6_station) := goodIn_app (goodIn_of _ (by decide +kernel)) ggL_law_X6_station
set_option maxRecDepth 20000 in
theorem ggL_law_X7_station_ : GoodIn wsL_law wsX7_station_ := goodIn_r _ [358, 85, 150, 151, 152, 5, 153, 129, 130, 131, 359, 360, 361, 362, 363, 364, 365, 366, 367, 368, 369, 370, 371, 372, 373, 374, 375, 376, 377, 378, 379, 380, 381, 382, 383, 384, 385, 386, 387, 388, 389, 390, 391, 392, 393, 711, 712, 713, 714, 715, 716, 717, 718, 719, 720, 721, 722, 723, 724, 725] (by decide +kernel) (by decide +kernel)
set_option maxRecDepth 20000 in
theorem gL_law_X7_station_ : GoodIn wsL_law (wsV RL 67 RX7 yX7_station_ wsX7_station_) := goodIn_app (goodIn_of _ (by decide +kernel)) ggL_law_X7_station_
set_option maxRecDepth 20000 in
theorem ggL_law_X6_sees : GoodIn wsL_law wsX6_sees := goodIn_r _ [397, 15, 142, 143, 144, 14, 145, 43, 398, 399, 400, 401, 334, 320, 321, 322, 41, 42, 162, 335, 336, 337, 338, 339, 340, 107, 341, 342, 106, 108, 343, 344, 345, 346, 331, 332, 333, 45, 704, 705, 706, 707, 708, 709, 710, 726, 727, 728, 729, 730] (by decide +kernel) (by decide +kernel)
set_option maxRecDepth 20000 in
theorem gL_law_X6_sees : GoodIn wsL_law (wsV RL 68 RX6 yX6_sees wsX6_sees) := goodIn_app (goodIn_of _ (by decide +kernel)) ggL_law_X6_sees
set_option maxRecDepth 20000 in
theorem ggL_law_X7_sees : GoodIn wsL_law wsX7_sees := goodIn_r _ [405, 150, 151, 152, 5, 153, 85, 129, 130, 131, 374, 375, 376, 377, 359, 360, 361, 362, 378, 379, 380, 381, 382, 383, 384, 385, 711, 712, 713, 714, 715, 716, 717, 718, 719, 720, 721, 722, 723, 724, 725] (by decide +kernel) (by decide +kernel)
set_option maxRecDepth 20000 in
theorem gL_law_X7_sees : GoodIn wsL_law (wsV RL 71 RX7 yX7_sees wsX7_sees) := goodIn_app (goodIn_of _ (by decide +kernel)) ggL_law_X7_sees
set_option maxRecDepth 20000 in
theorem ggL_law_X6_obstacle : GoodIn wsL_law wsX6_obstacle := goodIn_r _ [409, 15, 410, 411, 412, 14, 413, 162, 143, 144, 145, 43, 98, 99, 2, 100, 414, 415, 416, 417, 339, 340, 107, 341, 342, 106, 108, 334, 320, 321, 322, 41, 42, 343, 344, 345, 346, 331, 332, 333, 45, 319, 418, 704, 705, 706, 707, 708, 709, 710, 726, 727, 728, 729, 730] (by decide +kernel) (by decide +kernel)
set_option maxRecDepth 20000 in
theorem gL_law_X6_obstacle : GoodIn wsL_law (wsV RL 72 RX6 yX6_obstacle wsX6_obstacle) := goodIn_app (goodIn_of _ (by decide +kernel)) ggL_law_X6_obstacle
set_option maxRecDepth 20000 in
theorem ggL_law_X7_obstacle : GoodIn wsL_law wsX7_obstacle := goodIn_r _ [422, 423, 424, 425, 5, 426, 150, 151, 152, 153, 85, 129, 130, 131, 359, 360, 361, 362, 382, 383, 384, 385, 711, 712, 713, 714, 715, 716, 717, 718, 719, 720, 721, 722, 723, 724, 725] (by decide +kernel) (by decide +kernel)
set_option maxRecDepth 20000 in
theorem gL_law_X7_obstacle : GoodIn wsL_law (wsV RL 76 RX7 yX7_obstacle wsX7_obstacle) := goodIn_app (goodIn_of _ (by decide +kernel)) ggL_law_X7_obstacle
