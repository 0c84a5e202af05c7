set_option maxRecDepth 20000 in
theorem pc_changes_0 : GoodIn wsL_law ([.code yL_changes cL_changes 12 (some .boolean)]) := fun w h => by
  rw [List.mem_singleton] at h
  subst h
  exact ⟨List.mem_of_getElem? (l := wsL_law) (i := 298) rfl, Or.inl rfl⟩
set_option maxRecDepth 20000 in
theorem pc_changes_1 : GoodIn wsL_law (wsL_changes_r1) := goodIn_r _ [207, 208, 201, 209, 210, 219, 220, 221, 2, 222, 13, 18, 223, 133, 104, 105, 12, 106, 40, 175, 176, 177, 178, 179] (by decide +kernel) (by decide +kernel)
set_option maxRecDepth 20000 in
theorem pc_changes_2 : GoodIn wsL_law (wsL_changes_r2) := goodIn_r _ [180, 17, 181, 48, 50, 49, 182, 116, 113, 117, 183, 184, 185, 186, 41, 42, 187, 188, 189, 190, 38, 39, 224, 225] (by decide +kernel) (by decide +kernel)
set_option maxRecDepth 20000 in
theorem pc_changes_3 : GoodIn wsL_law (wsL_changes_r3) := goodIn_r _ [226, 227, 228, 299, 300, 301, 302, 303, 304, 305, 306, 103, 307, 308, 309, 310, 14, 311, 312, 313, 314, 315, 211, 212] (by decide +kernel) (by decide +kernel)
