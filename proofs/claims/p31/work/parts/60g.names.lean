set_option maxRecDepth 20000 in
theorem ggL_law_X6_count : GoodIn wsL_law wsX6_count := goodIn_r _ [81, 13, 82, 83, 84, 18, 85, 22, 86, 87, 88, 89, 12, 90, 40, 39, 91, 92, 93, 94, 95, 96, 97, 98, 99, 100, 101, 102, 38, 103, 104, 105, 106, 107, 108, 109, 110, 111, 112, 113, 114, 115, 116, 117, 118, 119, 120, 121, 122, 123, 124, 42, 125, 126, 127, 128, 316, 317, 318, 319, 320, 321, 322, 323, 324, 325, 326, 327, 328, 329, 330, 331, 332, 333, 334] (by decide +kernel) (by decide +kernel)
set_option maxRecDepth 20000 in
theorem gL_law_X6_count : GoodIn wsL_law (wsV RL 48 RX6 yX6_count wsX6_count) := goodIn_app (goodIn_of _ (by decide +kernel)) ggL_law_X6_count
set_option maxRecDepth 20000 in
theorem ggL_law_X6_sees : GoodIn wsL_law wsX6_sees := goodIn_r _ [132, 13, 133, 104, 105, 12, 106, 40, 134, 96, 97, 98, 99, 100, 101, 102, 38, 39, 103, 107, 108, 109, 110, 111, 112, 113, 114, 115, 116, 117, 118, 119, 120, 121, 122, 123, 124, 42, 316, 317, 318, 319, 320, 321, 322, 323, 324, 325, 326, 327] (by decide +kernel) (by decide +kernel)
set_option maxRecDepth 20000 in
theorem gL_law_X6_sees : GoodIn wsL_law (wsV RL 55 RX6 yX6_sees wsX6_sees) := goodIn_app (goodIn_of _ (by decide +kernel)) ggL_law_X6_sees
set_option maxRecDepth 20000 in
theorem ggL_law_X6_farthest : GoodIn wsL_law wsX6_farthest := goodIn_r _ [138, 13, 82, 139, 140, 141, 12, 142, 122, 123, 113, 124, 41, 99, 100, 101, 102, 38, 39, 103, 104, 105, 106, 40, 107, 108, 109, 110, 111, 112, 114, 115, 116, 117, 118, 119, 120, 121, 42, 316, 317, 318, 319, 320, 321, 322, 323, 324, 325, 326, 327] (by decide +kernel) (by decide +kernel)
set_option maxRecDepth 20000 in
theorem gL_law_X6_farthest : GoodIn wsL_law (wsV RL 77 RX6 yX6_farthest wsX6_farthest) := goodIn_app (goodIn_of _ (by decide +kernel)) ggL_law_X6_farthest
set_option maxRecDepth 20000 in
theorem ggL_law_X6_groups : GoodIn wsL_law wsX6_groups := goodIn_r _ [146, 30, 13, 147, 148, 149, 29, 150, 151, 71, 72, 152, 67, 69, 68, 153, 100, 101, 12, 102, 38, 39, 103, 104, 105, 106, 40, 154, 155, 156, 157, 158, 123, 113, 124, 159, 160, 108, 109, 110, 111, 112, 114, 115, 116, 117, 118, 119, 120, 121, 122, 42, 161, 162, 163, 164, 165, 2, 166, 167, 168, 169, 170, 316, 317, 318, 319, 320, 321, 322, 323, 324, 325, 326, 327, 337, 338, 339, 340, 341, 342] (by decide +kernel) (by decide +kernel)
set_option maxRecDepth 20000 in
theorem gL_law_X6_groups : GoodIn wsL_law (wsV RL 73 RX6 yX6_groups wsX6_groups) := goodIn_app (goodIn_of _ (by decide +kernel)) ggL_law_X6_groups
set_option maxRecDepth 20000 in
theorem ggL_law_X6_reset : GoodIn wsL_law wsX6_reset := goodIn_r _ [174, 18, 13, 175, 176, 2, 177, 178, 179, 180, 17, 181, 48, 50, 49, 182, 116, 113, 117, 183, 184, 185, 12, 186, 41, 42, 187, 188, 189, 190, 40, 38, 39, 191, 192, 193, 194, 195, 196, 197, 198, 316, 317, 318, 319, 320, 321, 322, 328, 329, 330, 323, 324, 325, 326, 327] (by decide +kernel) (by decide +kernel)
set_option maxRecDepth 20000 in
theorem gL_law_X6_reset : GoodIn wsL_law (wsV RL 30 RX6 yX6_reset wsX6_reset) := goodIn_app (goodIn_of _ (by decide +kernel)) ggL_law_X6_reset
set_option maxRecDepth 20000 in
theorem ggL_law_L_grows : GoodIn wsL_law wsL_grows := goodIn_r _ [202, 203, 204, 201, 205, 206, 207, 208, 209, 210, 171, 172, 173, 2, 174, 18, 13, 175, 176, 177, 178, 179, 180, 17, 181, 48, 50, 49, 182, 116, 113, 117, 183, 184, 185, 12, 186, 41, 42, 187, 188, 189, 190, 40, 38, 39, 191, 192, 193, 194, 195, 196, 197, 198, 211, 212, 213, 214, 83, 215, 216, 217, 218, 84, 219, 220, 221, 222, 223, 133, 104, 105, 106, 224, 225, 226, 227, 228, 78, 79, 80, 81, 82, 85, 22, 86, 87, 88, 89, 90, 91, 92, 93, 94, 95, 96, 97, 98, 99, 100, 101, 102, 103, 107, 108, 109, 110, 111, 112, 114, 115, 118, 119, 120, 121, 122, 123, 124, 125, 126, 127, 128, 316, 317, 318, 319, 320, 321, 322, 328, 329, 330, 323, 324, 325, 326, 327, 331, 332, 333, 334] (by decide +kernel) (by decide +kernel)
set_option maxRecDepth 20000 in
theorem gL_law_L_grows : GoodIn wsL_law (va_wsS RL 87 yL_grows wsL_grows) := goodIn_app (goodIn_of _ (by decide +kernel)) ggL_law_L_grows
