set_option maxRecDepth 20000 in
theorem ggL_law_L_cell : GoodIn wsL_law wsL_cell := goodIn_r _ [205, 206] (by decide +kernel) (by decide +kernel)
set_option maxRecDepth 20000 in
theorem gL_law_L_cell : GoodIn wsL_law (va_wsS RL 23 yL_cell wsL_cell) := goodIn_app (goodIn_of _ (by decide +kernel)) ggL_law_L_cell
set_option maxRecDepth 20000 in
theorem ggL_law_L_isTold : GoodIn wsL_law wsL_isTold := goodIn_r _ [231, 3, 232, 233, 201, 234, 235, 236, 237, 238, 239, 240, 241, 242, 243, 129, 130, 131, 2, 132, 13, 133, 104, 105, 12, 106, 40, 134, 96, 97, 98, 99, 100, 101, 102, 38, 39, 103, 107, 108, 109, 110, 111, 112, 113, 114, 115, 116, 117, 118, 119, 120, 121, 122, 123, 124, 42, 244, 245, 246, 247, 248, 249, 250, 223, 228, 251, 252, 253, 254, 255, 256, 140, 141, 142, 41, 257, 258, 259, 260, 261, 262, 263, 264, 265, 266, 267, 268, 269, 270, 271, 175, 176, 177, 272, 273, 274, 275, 276, 277, 278, 279, 165, 166, 143, 144, 145, 146, 30, 147, 148, 149, 29, 150, 151, 71, 72, 152, 67, 69, 68, 153, 154, 155, 156, 157, 158, 159, 160, 161, 162, 163, 164, 167, 168, 169, 170, 135, 136, 137, 138, 82, 139, 78, 79, 80, 81, 83, 84, 18, 85, 22, 86, 87, 88, 89, 90, 91, 92, 93, 94, 95, 125, 126, 127, 128, 316, 317, 318, 319, 320, 321, 322, 323, 324, 325, 326, 327, 337, 338, 339, 340, 341, 342, 328, 329, 330, 331, 332, 333, 334] (by decide +kernel) (by decide +kernel)
set_option maxRecDepth 20000 in
theorem gL_law_L_isTold : GoodIn wsL_law (va_wsS RL 91 yL_isTold wsL_isTold) := goodIn_app (goodIn_of _ (by decide +kernel)) ggL_law_L_isTold
set_option maxRecDepth 20000 in
theorem ggL_law_L_low : GoodIn wsL_law wsL_low := goodIn_r _ [209, 210] (by decide +kernel) (by decide +kernel)
set_option maxRecDepth 20000 in
theorem gL_law_L_low : GoodIn wsL_law (va_wsS RL 26 yL_low wsL_low) := goodIn_app (goodIn_of _ (by decide +kernel)) ggL_law_L_low
set_option maxRecDepth 20000 in
theorem ggL_law_L_isObstacle : GoodIn wsL_law wsL_isObstacle := goodIn_r _ [282, 283, 284, 285, 2, 286, 13, 287, 288, 289, 12, 290, 103, 104, 105, 106, 40, 175, 176, 177, 291, 292, 293, 294, 111, 112, 113, 114, 115, 116, 117, 99, 100, 101, 102, 38, 39, 118, 119, 120, 121, 122, 123, 124, 42, 251, 295, 235, 236, 201, 237, 129, 130, 131, 132, 133, 134, 96, 97, 98, 107, 108, 109, 110, 316, 317, 318, 319, 320, 321, 322, 323, 324, 325, 326, 327] (by decide +kernel) (by decide +kernel)
set_option maxRecDepth 20000 in
theorem gL_law_L_isObstacle : GoodIn wsL_law (va_wsS RL 95 yL_isObstacle wsL_isObstacle) := goodIn_app (goodIn_of _ (by decide +kernel)) ggL_law_L_isObstacle
set_option maxRecDepth 20000 in
theorem ggL_law_L_changes : GoodIn wsL_law wsL_changes := goodIn_r _ [298, 207, 208, 201, 209, 210, 219, 220, 221, 2, 222, 13, 18, 223, 133, 104, 105, 12, 106, 40, 175, 176, 177, 178, 179, 180, 17, 181, 48, 50, 49, 182, 116, 113, 117, 183, 184, 185, 186, 41, 42, 187, 188, 189, 190, 38, 39, 224, 225, 226, 227, 228, 299, 300, 301, 302, 303, 304, 305, 306, 103, 307, 308, 309, 310, 14, 311, 312, 313, 314, 315, 211, 212, 213, 214, 83, 215, 216, 217, 218, 84, 316, 317, 318, 319, 320, 321, 322, 323, 324, 325, 326, 327, 328, 329, 330] (by decide +kernel) (by decide +kernel)
set_option maxRecDepth 20000 in
theorem gL_law_L_changes : GoodIn wsL_law (va_wsS RL 99 yL_changes wsL_changes) := goodIn_app (goodIn_of _ (by decide +kernel)) ggL_law_L_changes
