set_option maxRecDepth 100000 in
theorem pj_cs6 : pj_allg (pj_chkH 6) [[], [0], []] [] = true := by decide +kernel
set_option maxRecDepth 100000 in
theorem pj_cs7 : pj_allg (pj_chkH 7) [[], [0], []] [] = true := by decide +kernel
set_option maxRecDepth 100000 in
theorem pj_cs8 : pj_allg (pj_chkH 8) [[], [0], []] [] = true := by decide +kernel
set_option maxRecDepth 100000 in
theorem pj_cs43 : pj_allg (pj_chkH 43) [[], [0]] [] = true := by decide +kernel
