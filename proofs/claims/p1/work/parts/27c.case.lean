set_option maxRecDepth 100000 in
theorem pj_cs19 : pj_allk 19 [[], [0], [0]] [] = true := by decide +kernel
set_option maxRecDepth 100000 in
theorem pj_cs20 : pj_allk 20 [[], [0], [0]] [] = true := by decide +kernel
set_option maxRecDepth 100000 in
theorem pj_cs22 : pj_allk 22 [[], [0, 1]] [] = true := by decide +kernel
set_option maxRecDepth 100000 in
theorem pj_cs23 : pj_allk 23 [[], [0, 1]] [] = true := by decide +kernel
set_option maxRecDepth 100000 in
theorem pj_cs28 : pj_allk 28 [[], [0, 1, 2, 3, 4]] [] = true := by decide +kernel
