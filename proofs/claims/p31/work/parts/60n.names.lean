set_option maxRecDepth 20000 in
theorem pc_isObstacle_0 : GoodIn wsL_law ([.code yL_isObstacle cL_isObstacle 12 (some .boolean)]) := fun w h => by
  rw [List.mem_singleton] at h
  subst h
  exact ⟨List.mem_of_getElem? (l := wsL_law) (i := 282) rfl, Or.inl rfl⟩
set_option maxRecDepth 20000 in
theorem pc_isObstacle_1 : GoodIn wsL_law (wsL_isObstacle_r1) := goodIn_r _ [283, 284, 285, 2, 286, 13, 287, 288, 289, 12, 290, 103, 104, 105, 106, 40, 175, 176, 177, 291, 292, 293, 294, 111] (by decide +kernel) (by decide +kernel)
set_option maxRecDepth 20000 in
theorem pc_isObstacle_2 : GoodIn wsL_law (wsL_isObstacle_r2) := goodIn_r _ [112, 113, 114, 115, 116, 117, 99, 100, 101, 102, 38, 39, 118, 119, 120, 121, 122, 123, 124, 42, 251, 295, 235, 236] (by decide +kernel) (by decide +kernel)
set_option maxRecDepth 20000 in
theorem pc_isObstacle_3 : GoodIn wsL_law (wsL_isObstacle_r3) := goodIn_r _ [201, 237, 129, 130, 131, 132, 133, 134, 96, 97, 98, 107, 108, 109, 110] (by decide +kernel) (by decide +kernel)
