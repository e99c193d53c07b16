set_option maxRecDepth 100000 in
theorem pj_cs29 : pj_allk 29 [[], [0], [], [], [0]] [] = true := by decide +kernel
set_option maxRecDepth 100000 in
theorem pj_cs30 : pj_allk 30 [[], [0], [], []] [] = true := by decide +kernel
set_option maxRecDepth 100000 in
theorem pj_cs39 : pj_allk 39 [[], [], [1, 61]] [] = true := by decide +kernel
set_option maxRecDepth 100000 in
theorem pj_cs40 : pj_allk 40 [[], [0, 1, 2, 3]] [] = true := by decide +kernel
set_option maxRecDepth 100000 in
theorem pj_cs41 : pj_allk 41 [[], [0, 1, 2, 3]] [] = true := by decide +kernel
set_option maxRecDepth 100000 in
theorem pj_cs42 : pj_allk 42 [[], [0, 1, 2, 3, 4, 5, 6, 7, 8, 9, 10, 11, 12, 13, 14]] [] = true := by decide +kernel
