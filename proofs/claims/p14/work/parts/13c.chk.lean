set_option maxRecDepth 100000 in
theorem pj_ml49 : pj_okm pj_m49 (1, 1) = true := by decide +kernel
set_option maxRecDepth 100000 in
theorem pj_mn49 : plainName pj_m49.1.cls = true := pj_pl6
set_option maxRecDepth 100000 in
theorem pj_mr49 : pj_okRL pj_m49 = true := by decide +kernel
set_option maxRecDepth 100000 in
theorem pj_ml50 : pj_okm pj_m50 (3, 1) = true := by decide +kernel
set_option maxRecDepth 100000 in
theorem pj_mn50 : plainName pj_m50.1.cls = true := pj_pl6
set_option maxRecDepth 100000 in
theorem pj_mr50 : pj_okRL pj_m50 = true := by decide +kernel
set_option maxRecDepth 100000 in
theorem pj_ml51 : pj_okm pj_m51 (5, 1) = true := by decide +kernel
set_option maxRecDepth 100000 in
theorem pj_mn51 : plainName pj_m51.1.cls = true := pj_pl6
set_option maxRecDepth 100000 in
theorem pj_mr51 : pj_okRL pj_m51 = true := by decide +kernel
set_option maxRecDepth 100000 in
theorem pj_ml52 : pj_okm pj_m52 (0, 2) = true := by decide +kernel
set_option maxRecDepth 100000 in
theorem pj_mn52 : plainName pj_m52.1.cls = true := pj_pl7
set_option maxRecDepth 100000 in
theorem pj_mr52 : pj_okRL pj_m52 = true := by decide +kernel
set_option maxRecDepth 100000 in
theorem pj_ml53 : pj_okm pj_m53 (0, 1) = true := by decide +kernel
set_option maxRecDepth 100000 in
theorem pj_mn53 : plainName pj_m53.1.cls = true := pj_pl7
set_option maxRecDepth 100000 in
theorem pj_mr53 : pj_okRL pj_m53 = true := by decide +kernel
set_option maxRecDepth 100000 in
theorem pj_ml54 : pj_okm pj_m54 (1, 1) = true := by decide +kernel
set_option maxRecDepth 100000 in
theorem pj_mn54 : plainName pj_m54.1.cls = true := pj_pl7
set_option maxRecDepth 100000 in
theorem pj_mr54 : pj_okRL pj_m54 = true := by decide +kernel
set_option maxRecDepth 100000 in
theorem pj_ml55 : pj_okm pj_m55 (1, 1) = true := by decide +kernel
set_option maxRecDepth 100000 in
theorem pj_mn55 : plainName pj_m55.1.cls = true := pj_pl7
set_option maxRecDepth 100000 in
theorem pj_mr55 : pj_okRL pj_m55 = true := by decide +kernel
set_option maxRecDepth 100000 in
theorem pj_ml56 : pj_okm pj_m56 (2, 1) = true := by decide +kernel
set_option maxRecDepth 100000 in
theorem pj_mn56 : plainName pj_m56.1.cls = true := pj_pl7
set_option maxRecDepth 100000 in
theorem pj_mr56 : pj_okRL pj_m56 = true := by decide +kernel
set_option maxRecDepth 100000 in
theorem pj_ml57 : pj_okm pj_m57 (0, 2) = true := by decide +kernel
set_option maxRecDepth 100000 in
theorem pj_mn57 : plainName pj_m57.1.cls = true := pj_pl8
set_option maxRecDepth 100000 in
theorem pj_mr57 : pj_okRL pj_m57 = true := by decide +kernel
set_option maxRecDepth 100000 in
theorem pj_ml58 : pj_okm pj_m58 (1, 1) = true := by decide +kernel
set_option maxRecDepth 100000 in
theorem pj_mn58 : plainName pj_m58.1.cls = true := pj_pl8
set_option maxRecDepth 100000 in
theorem pj_mr58 : pj_okRL pj_m58 = true := by decide +kernel
set_option maxRecDepth 100000 in
theorem pj_ml59 : pj_okm pj_m59 (0, 1) = true := by decide +kernel
set_option maxRecDepth 100000 in
theorem pj_mn59 : plainName pj_m59.1.cls = true := pj_pl8
set_option maxRecDepth 100000 in
theorem pj_mr59 : pj_okRL pj_m59 = true := by decide +kernel
set_option maxRecDepth 100000 in
theorem pj_ml60 : pj_okm pj_m60 (1, 1) = true := by decide +kernel
set_option maxRecDepth 100000 in
theorem pj_mn60 : plainName pj_m60.1.cls = true := pj_pl8
set_option maxRecDepth 100000 in
theorem pj_mr60 : pj_okRL pj_m60 = true := by decide +kernel
set_option maxRecDepth 100000 in
theorem pj_ml61 : pj_okm pj_m61 (1, 0) = true := by decide +kernel
set_option maxRecDepth 100000 in
theorem pj_mn61 : plainName pj_m61.1.cls = true := pj_pl8
set_option maxRecDepth 100000 in
theorem pj_mr61 : pj_okRL pj_m61 = true := by decide +kernel
set_option maxRecDepth 100000 in
theorem pj_ml62 : pj_okm pj_m62 (3, 1) = true := by decide +kernel
set_option maxRecDepth 100000 in
theorem pj_mn62 : plainName pj_m62.1.cls = true := pj_pl8
set_option maxRecDepth 100000 in
theorem pj_mr62 : pj_okRL pj_m62 = true := by decide +kernel
set_option maxRecDepth 100000 in
theorem pj_ml63 : pj_okm pj_m63 (2, 1) = true := by decide +kernel
set_option maxRecDepth 100000 in
theorem pj_mn63 : plainName pj_m63.1.cls = true := pj_pl8
set_option maxRecDepth 100000 in
theorem pj_mr63 : pj_okRL pj_m63 = true := by decide +kernel
set_option maxRecDepth 100000 in
theorem pj_ml64 : pj_okm pj_m64 (2, 1) = true := by decide +kernel
set_option maxRecDepth 100000 in
theorem pj_mn64 : plainName pj_m64.1.cls = true := pj_pl8
set_option maxRecDepth 100000 in
theorem pj_mr64 : pj_okRL pj_m64 = true := by decide +kernel
set_option maxRecDepth 100000 in
theorem pj_ml65 : pj_okm pj_m65 (1, 1) = true := by decide +kernel
set_option maxRecDepth 100000 in
theorem pj_mn65 : plainName pj_m65.1.cls = true := pj_pl8
set_option maxRecDepth 100000 in
theorem pj_mr65 : pj_okRL pj_m65 = true := by decide +kernel
set_option maxRecDepth 100000 in
theorem pj_ml66 : pj_okm pj_m66 (3, 0) = true := by decide +kernel
set_option maxRecDepth 100000 in
theorem pj_mn66 : plainName pj_m66.1.cls = true := pj_pl8
set_option maxRecDepth 100000 in
theorem pj_mr66 : pj_okRL pj_m66 = true := by decide +kernel
set_option maxRecDepth 100000 in
theorem pj_ml67 : pj_okm pj_m67 (0, 2) = true := by decide +kernel
set_option maxRecDepth 100000 in
theorem pj_mn67 : plainName pj_m67.1.cls = true := pj_pl9
set_option maxRecDepth 100000 in
theorem pj_mr67 : pj_okRL pj_m67 = true := by decide +kernel
set_option maxRecDepth 100000 in
theorem pj_ml68 : pj_okm pj_m68 (1, 1) = true := by decide +kernel
set_option maxRecDepth 100000 in
theorem pj_mn68 : plainName pj_m68.1.cls = true := pj_pl9
set_option maxRecDepth 100000 in
theorem pj_mr68 : pj_okRL pj_m68 = true := by decide +kernel
set_option maxRecDepth 100000 in
theorem pj_ml69 : pj_okm pj_m69 (1, 1) = true := by decide +kernel
set_option maxRecDepth 100000 in
theorem pj_mn69 : plainName pj_m69.1.cls = true := pj_pl9
set_option maxRecDepth 100000 in
theorem pj_mr69 : pj_okRL pj_m69 = true := by decide +kernel
set_option maxRecDepth 100000 in
theorem pj_ml70 : pj_okm pj_m70 (1, 1) = true := by decide +kernel
set_option maxRecDepth 100000 in
theorem pj_mn70 : plainName pj_m70.1.cls = true := pj_pl9
set_option maxRecDepth 100000 in
theorem pj_mr70 : pj_okRL pj_m70 = true := by decide +kernel
set_option maxRecDepth 100000 in
theorem pj_ml71 : pj_okm pj_m71 (1, 1) = true := by decide +kernel
set_option maxRecDepth 100000 in
theorem pj_mn71 : plainName pj_m71.1.cls = true := pj_pl9
set_option maxRecDepth 100000 in
theorem pj_mr71 : pj_okRL pj_m71 = true := by decide +kernel
set_option maxRecDepth 100000 in
theorem pj_ml72 : pj_okm pj_m72 (1, 1) = true := by decide +kernel
set_option maxRecDepth 100000 in
theorem pj_mn72 : plainName pj_m72.1.cls = true := pj_pl9
set_option maxRecDepth 100000 in
theorem pj_mr72 : pj_okRL pj_m72 = true := by decide +kernel
set_option maxRecDepth 100000 in
theorem pj_ml73 : pj_okm pj_m73 (0, 1) = true := by decide +kernel
set_option maxRecDepth 100000 in
theorem pj_mn73 : plainName pj_m73.1.cls = true := pj_pl9
set_option maxRecDepth 100000 in
theorem pj_mr73 : pj_okRL pj_m73 = true := by decide +kernel
set_option maxRecDepth 100000 in
theorem pj_ml74 : pj_okm pj_m74 (0, 1) = true := by decide +kernel
set_option maxRecDepth 100000 in
theorem pj_mn74 : plainName pj_m74.1.cls = true := pj_pl9
set_option maxRecDepth 100000 in
theorem pj_mr74 : pj_okRL pj_m74 = true := by decide +kernel
set_option maxRecDepth 100000 in
theorem pj_ml75 : pj_okm pj_m75 (0, 1) = true := by decide +kernel
set_option maxRecDepth 100000 in
theorem pj_mn75 : plainName pj_m75.1.cls = true := pj_pl9
set_option maxRecDepth 100000 in
theorem pj_mr75 : pj_okRL pj_m75 = true := by decide +kernel
set_option maxRecDepth 100000 in
theorem pj_ml76 : pj_okm pj_m76 (0, 2) = true := by decide +kernel
set_option maxRecDepth 100000 in
theorem pj_mn76 : plainName pj_m76.1.cls = true := pj_pl10
set_option maxRecDepth 100000 in
theorem pj_mr76 : pj_okRL pj_m76 = true := by decide +kernel
set_option maxRecDepth 100000 in
theorem pj_ml77 : pj_okm pj_m77 (1, 1) = true := by decide +kernel
set_option maxRecDepth 100000 in
theorem pj_mn77 : plainName pj_m77.1.cls = true := pj_pl10
set_option maxRecDepth 100000 in
theorem pj_mr77 : pj_okRL pj_m77 = true := by decide +kernel
set_option maxRecDepth 100000 in
theorem pj_ml78 : pj_okm pj_m78 (1, 1) = true := by decide +kernel
set_option maxRecDepth 100000 in
theorem pj_mn78 : plainName pj_m78.1.cls = true := pj_pl10
set_option maxRecDepth 100000 in
theorem pj_mr78 : pj_okRL pj_m78 = true := by decide +kernel
set_option maxRecDepth 100000 in
theorem pj_ml79 : pj_okm pj_m79 (1, 1) = true := by decide +kernel
set_option maxRecDepth 100000 in
theorem pj_mn79 : plainName pj_m79.1.cls = true := pj_pl10
set_option maxRecDepth 100000 in
theorem pj_mr79 : pj_okRL pj_m79 = true := by decide +kernel
set_option maxRecDepth 100000 in
theorem pj_ml80 : pj_okm pj_m80 (0, 1) = true := by decide +kernel
set_option maxRecDepth 100000 in
theorem pj_mn80 : plainName pj_m80.1.cls = true := pj_pl10
set_option maxRecDepth 100000 in
theorem pj_mr80 : pj_okRL pj_m80 = true := by decide +kernel
set_option maxRecDepth 100000 in
theorem pj_ml81 : pj_okm pj_m81 (0, 1) = true := by decide +kernel
set_option maxRecDepth 100000 in
theorem pj_mn81 : plainName pj_m81.1.cls = true := pj_pl10
set_option maxRecDepth 100000 in
theorem pj_mr81 : pj_okRL pj_m81 = true := by decide +kernel
set_option maxRecDepth 100000 in
theorem pj_ml82 : pj_okm pj_m82 (1, 1) = true := by decide +kernel
set_option maxRecDepth 100000 in
theorem pj_mn82 : plainName pj_m82.1.cls = true := pj_pl10
set_option maxRecDepth 100000 in
theorem pj_mr82 : pj_okRL pj_m82 = true := by decide +kernel
