set_option maxRecDepth 20000 in
theorem in_law_r7 : ∀ w ∈ wsL_law_r7, w ∈ lw_tbl := fun w h => (goodIn_p wsL_law_r7 [237, 241, 246, 252, 255] (by decide +kernel) (by decide +kernel) w h).1
set_option maxRecDepth 20000 in
theorem in_law_r8 : ∀ w ∈ wsL_law_r8, w ∈ lw_tbl := fun w h => (goodIn_p wsL_law_r8 [259, 167, 170, 174, 178, 182] (by decide +kernel) (by decide +kernel) w h).1
set_option maxRecDepth 20000 in
theorem in_law_r9 : ∀ w ∈ wsL_law_r9, w ∈ lw_tbl := fun w h => (goodIn_p wsL_law_r9 [189, 193, 287, 279, 283, 291] rfl (by decide +kernel) w h).1
set_option maxRecDepth 20000 in
theorem in_law_r10 : ∀ w ∈ wsL_law_r10, w ∈ lw_tbl := fun w h => (goodIn_p wsL_law_r10 [295, 299, 303, 326, 329, 323] rfl (by decide +kernel) w h).1
set_option maxRecDepth 20000 in
theorem in_law_r11 : ∀ w ∈ wsL_law_r11, w ∈ lw_tbl := fun w h => (goodIn_p wsL_law_r11 [332, 335, 338, 342, 346, 351] rfl (by decide +kernel) w h).1
set_option maxRecDepth 20000 in
theorem in_law_r12 : ∀ w ∈ wsL_law_r12, w ∈ lw_tbl := fun w h => (goodIn_p wsL_law_r12 [355, 358, 362, 366, 369, 306, 310] rfl (by decide +kernel) w h).1
