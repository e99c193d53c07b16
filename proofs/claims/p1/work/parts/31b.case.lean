set_option maxRecDepth 100000 in
theorem pj_cs9 : pj_allk 9 [[], [0, 1, 2, 3, 4], [0, 7], [], []] [] = true := by decide +kernel
set_option maxRecDepth 100000 in
theorem pj_cs10 : pj_allk 10 [[], [0], []] [] = true := by decide +kernel
set_option maxRecDepth 100000 in
theorem pj_cs11 : pj_allk 11 [[], [0], []] [] = true := by decide +kernel
set_option maxRecDepth 100000 in
theorem pj_cs12 : pj_allk 12 [[], [0], []] [] = true := by decide +kernel
set_option maxRecDepth 100000 in
theorem pj_cs13 : pj_allk 13 [[], [0], []] [] = true := by decide +kernel
