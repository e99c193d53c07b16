set_option maxRecDepth 100000 in
theorem pj_ml83 : pj_okm pj_m83 (2, 1) = true := by decide +kernel
set_option maxRecDepth 100000 in
theorem pj_mn83 : plainName pj_m83.1.cls = true := pj_pl10
set_option maxRecDepth 100000 in
theorem pj_mr83 : pj_okRL pj_m83 = true := by decide +kernel
set_option maxRecDepth 100000 in
theorem pj_ml84 : pj_okm pj_m84 (1, 1) = true := by decide +kernel
set_option maxRecDepth 100000 in
theorem pj_mn84 : plainName pj_m84.1.cls = true := pj_pl10
set_option maxRecDepth 100000 in
theorem pj_mr84 : pj_okRL pj_m84 = true := by decide +kernel
set_option maxRecDepth 100000 in
theorem pj_ml85 : pj_okm pj_m85 (0, 1) = true := by decide +kernel
set_option maxRecDepth 100000 in
theorem pj_mn85 : plainName pj_m85.1.cls = true := pj_pl10
set_option maxRecDepth 100000 in
theorem pj_mr85 : pj_okRL pj_m85 = true := by decide +kernel
set_option maxRecDepth 100000 in
theorem pj_ml86 : pj_okm pj_m86 (1, 1) = true := by decide +kernel
set_option maxRecDepth 100000 in
theorem pj_mn86 : plainName pj_m86.1.cls = true := pj_pl10
set_option maxRecDepth 100000 in
theorem pj_mr86 : pj_okRL pj_m86 = true := by decide +kernel
set_option maxRecDepth 100000 in
theorem pj_ml87 : pj_okm pj_m87 (2, 1) = true := by decide +kernel
set_option maxRecDepth 100000 in
theorem pj_mn87 : plainName pj_m87.1.cls = true := pj_pl10
set_option maxRecDepth 100000 in
theorem pj_mr87 : pj_okRL pj_m87 = true := by decide +kernel
set_option maxRecDepth 100000 in
theorem pj_ml88 : pj_okm pj_m88 (0, 1) = true := by decide +kernel
set_option maxRecDepth 100000 in
theorem pj_mn88 : plainName pj_m88.1.cls = true := pj_pl10
set_option maxRecDepth 100000 in
theorem pj_mr88 : pj_okRL pj_m88 = true := by decide +kernel
set_option maxRecDepth 100000 in
theorem pj_ml89 : pj_okm pj_m89 (0, 2) = true := by decide +kernel
set_option maxRecDepth 100000 in
theorem pj_mn89 : plainName pj_m89.1.cls = true := pj_pl11
set_option maxRecDepth 100000 in
theorem pj_mr89 : pj_okRL pj_m89 = true := by decide +kernel
set_option maxRecDepth 100000 in
theorem pj_ml90 : pj_okm pj_m90 (0, 1) = true := by decide +kernel
set_option maxRecDepth 100000 in
theorem pj_mn90 : plainName pj_m90.1.cls = true := pj_pl11
set_option maxRecDepth 100000 in
theorem pj_mr90 : pj_okRL pj_m90 = true := by decide +kernel
set_option maxRecDepth 100000 in
theorem pj_ml91 : pj_okm pj_m91 (1, 1) = true := by decide +kernel
set_option maxRecDepth 100000 in
theorem pj_mn91 : plainName pj_m91.1.cls = true := pj_pl11
set_option maxRecDepth 100000 in
theorem pj_mr91 : pj_okRL pj_m91 = true := by decide +kernel
set_option maxRecDepth 100000 in
theorem pj_ml92 : pj_okm pj_m92 (1, 1) = true := by decide +kernel
set_option maxRecDepth 100000 in
theorem pj_mn92 : plainName pj_m92.1.cls = true := pj_pl11
set_option maxRecDepth 100000 in
theorem pj_mr92 : pj_okRL pj_m92 = true := by decide +kernel
set_option maxRecDepth 100000 in
theorem pj_ml93 : pj_okm pj_m93 (1, 1) = true := by decide +kernel
set_option maxRecDepth 100000 in
theorem pj_mn93 : plainName pj_m93.1.cls = true := pj_pl11
set_option maxRecDepth 100000 in
theorem pj_mr93 : pj_okRL pj_m93 = true := by decide +kernel
set_option maxRecDepth 100000 in
theorem pj_ml94 : pj_okm pj_m94 (1, 1) = true := by decide +kernel
set_option maxRecDepth 100000 in
theorem pj_mn94 : plainName pj_m94.1.cls = true := pj_pl11
set_option maxRecDepth 100000 in
theorem pj_mr94 : pj_okRL pj_m94 = true := by decide +kernel
set_option maxRecDepth 100000 in
theorem pj_ml95 : pj_okm pj_m95 (1, 1) = true := by decide +kernel
set_option maxRecDepth 100000 in
theorem pj_mn95 : plainName pj_m95.1.cls = true := pj_pl11
set_option maxRecDepth 100000 in
theorem pj_mr95 : pj_okRL pj_m95 = true := by decide +kernel
set_option maxRecDepth 100000 in
theorem pj_ml96 : pj_okm pj_m96 (1, 1) = true := by decide +kernel
set_option maxRecDepth 100000 in
theorem pj_mn96 : plainName pj_m96.1.cls = true := pj_pl11
set_option maxRecDepth 100000 in
theorem pj_mr96 : pj_okRL pj_m96 = true := by decide +kernel
set_option maxRecDepth 100000 in
theorem pj_ml97 : pj_okm pj_m97 (4, 1) = true := by decide +kernel
set_option maxRecDepth 100000 in
theorem pj_mn97 : plainName pj_m97.1.cls = true := pj_pl11
set_option maxRecDepth 100000 in
theorem pj_mr97 : pj_okRL pj_m97 = true := by decide +kernel
set_option maxRecDepth 100000 in
theorem pj_ml98 : pj_okm pj_m98 (2, 0) = true := by decide +kernel
set_option maxRecDepth 100000 in
theorem pj_mn98 : plainName pj_m98.1.cls = true := pj_pl11
set_option maxRecDepth 100000 in
theorem pj_mr98 : pj_okRL pj_m98 = true := by decide +kernel
set_option maxRecDepth 100000 in
theorem pj_ml99 : pj_okm pj_m99 (2, 1) = true := by decide +kernel
set_option maxRecDepth 100000 in
theorem pj_mn99 : plainName pj_m99.1.cls = true := pj_pl11
set_option maxRecDepth 100000 in
theorem pj_mr99 : pj_okRL pj_m99 = true := by decide +kernel
set_option maxRecDepth 100000 in
theorem pj_ml100 : pj_okm pj_m100 (1, 1) = true := by decide +kernel
set_option maxRecDepth 100000 in
theorem pj_mn100 : plainName pj_m100.1.cls = true := pj_pl11
set_option maxRecDepth 100000 in
theorem pj_mr100 : pj_okRL pj_m100 = true := by decide +kernel
set_option maxRecDepth 100000 in
theorem pj_ml101 : pj_okm pj_m101 (2, 1) = true := by decide +kernel
set_option maxRecDepth 100000 in
theorem pj_mn101 : plainName pj_m101.1.cls = true := pj_pl11
set_option maxRecDepth 100000 in
theorem pj_mr101 : pj_okRL pj_m101 = true := by decide +kernel
set_option maxRecDepth 100000 in
theorem pj_ml102 : pj_okm pj_m102 (2, 1) = true := by decide +kernel
set_option maxRecDepth 100000 in
theorem pj_mn102 : plainName pj_m102.1.cls = true := pj_pl11
set_option maxRecDepth 100000 in
theorem pj_mr102 : pj_okRL pj_m102 = true := by decide +kernel
set_option maxRecDepth 100000 in
theorem pj_ml103 : pj_okm pj_m103 (2, 1) = true := by decide +kernel
set_option maxRecDepth 100000 in
theorem pj_mn103 : plainName pj_m103.1.cls = true := pj_pl11
set_option maxRecDepth 100000 in
theorem pj_mr103 : pj_okRL pj_m103 = true := by decide +kernel
set_option maxRecDepth 100000 in
theorem pj_ml104 : pj_okm pj_m104 (2, 1) = true := by decide +kernel
set_option maxRecDepth 100000 in
theorem pj_mn104 : plainName pj_m104.1.cls = true := pj_pl11
set_option maxRecDepth 100000 in
theorem pj_mr104 : pj_okRL pj_m104 = true := by decide +kernel
set_option maxRecDepth 100000 in
theorem pj_ml105 : pj_okm pj_m105 (1, 1) = true := by decide +kernel
set_option maxRecDepth 100000 in
theorem pj_mn105 : plainName pj_m105.1.cls = true := pj_pl11
set_option maxRecDepth 100000 in
theorem pj_mr105 : pj_okRL pj_m105 = true := by decide +kernel
set_option maxRecDepth 100000 in
theorem pj_ml106 : pj_okm pj_m106 (0, 1) = true := by decide +kernel
set_option maxRecDepth 100000 in
theorem pj_mn106 : plainName pj_m106.1.cls = true := pj_pl11
set_option maxRecDepth 100000 in
theorem pj_mr106 : pj_okRL pj_m106 = true := by decide +kernel
set_option maxRecDepth 100000 in
theorem pj_ml107 : pj_okm pj_m107 (0, 1) = true := by decide +kernel
set_option maxRecDepth 100000 in
theorem pj_mn107 : plainName pj_m107.1.cls = true := pj_pl11
set_option maxRecDepth 100000 in
theorem pj_mr107 : pj_okRL pj_m107 = true := by decide +kernel
set_option maxRecDepth 100000 in
theorem pj_ml108 : pj_okm pj_m108 (2, 1) = true := by decide +kernel
set_option maxRecDepth 100000 in
theorem pj_mn108 : plainName pj_m108.1.cls = true := pj_pl11
set_option maxRecDepth 100000 in
theorem pj_mr108 : pj_okRL pj_m108 = true := by decide +kernel
