set_option maxRecDepth 100000 in
theorem pj_cs6 : pj_allg (pj_chkH 6) [[], [0], []] [] = true := by decide +kernel
