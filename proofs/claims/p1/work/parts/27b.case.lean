set_option maxRecDepth 100000 in
theorem pj_cs17 : pj_allk 17 [[], [0], [0]] [] = true := by decide +kernel
set_option maxRecDepth 100000 in
theorem pj_cs18 : pj_allk 18 [[], [0]] [] = true := by decide +kernel
set_option maxRecDepth 100000 in
theorem pj_cs1 : pj_allk 1 [[], [0, 1]] [] = true := by decide +kernel
set_option maxRecDepth 100000 in
theorem pj_cs26 : pj_allk 26 [[], [0, 1, 2, 3, 4, 5, 6, 7, 8, 9, 10]] [] = true := by decide +kernel
