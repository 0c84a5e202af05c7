set_option maxRecDepth 20000 in
theorem pc_isTold_0 : GoodIn wsL_law ([.code yL_isTold cL_isTold 15 (some .boolean)]) := fun w h => by
  rw [List.mem_singleton] at h
  subst h
  exact ⟨List.mem_of_getElem? (l := wsL_law) (i := 231) rfl, Or.inl rfl⟩
set_option maxRecDepth 20000 in
theorem pc_isTold_1 : GoodIn wsL_law (wsL_isTold_r1) := goodIn_r _ [3, 232, 233, 201, 234, 235, 236, 237, 238, 239, 240, 241, 242, 243, 129, 130, 131, 2, 132, 13, 133, 104, 105, 12] (by decide +kernel) (by decide +kernel)
set_option maxRecDepth 20000 in
theorem pc_isTold_2 : GoodIn wsL_law (wsL_isTold_r2) := goodIn_r _ [106, 40, 134, 96, 97, 98, 99, 100, 101, 102, 38, 39, 103, 107, 108, 109, 110, 111, 112, 113, 114, 115, 116, 117] (by decide +kernel) (by decide +kernel)
set_option maxRecDepth 20000 in
theorem pc_isTold_3 : GoodIn wsL_law (wsL_isTold_r3) := goodIn_r _ [118, 119, 120, 121, 122, 123, 124, 42, 244, 245, 246, 247, 248, 249, 250, 223, 228, 251, 252, 253, 254, 255, 256, 140] (by decide +kernel) (by decide +kernel)
