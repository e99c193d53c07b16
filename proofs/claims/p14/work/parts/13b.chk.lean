set_option maxRecDepth 100000 in
theorem pj_ml23 : pj_okm pj_m23 (0, 1) = true := by decide +kernel
set_option maxRecDepth 100000 in
theorem pj_mn23 : plainName pj_m23.1.cls = true := pj_pl4
set_option maxRecDepth 100000 in
theorem pj_mr23 : pj_okRL pj_m23 = true := by decide +kernel
set_option maxRecDepth 100000 in
theorem pj_ml24 : pj_okm pj_m24 (2, 1) = true := by decide +kernel
set_option maxRecDepth 100000 in
theorem pj_mn24 : plainName pj_m24.1.cls = true := pj_pl4
set_option maxRecDepth 100000 in
theorem pj_mr24 : pj_okRL pj_m24 = true := by decide +kernel
set_option maxRecDepth 100000 in
theorem pj_ml25 : pj_okm pj_m25 (3, 1) = true := by decide +kernel
set_option maxRecDepth 100000 in
theorem pj_mn25 : plainName pj_m25.1.cls = true := pj_pl4
set_option maxRecDepth 100000 in
theorem pj_mr25 : pj_okRL pj_m25 = true := by decide +kernel
set_option maxRecDepth 100000 in
theorem pj_ml26 : pj_okm pj_m26 (3, 1) = true := by decide +kernel
set_option maxRecDepth 100000 in
theorem pj_mn26 : plainName pj_m26.1.cls = true := pj_pl4
set_option maxRecDepth 100000 in
theorem pj_mr26 : pj_okRL pj_m26 = true := by decide +kernel
set_option maxRecDepth 100000 in
theorem pj_ml27 : pj_okm pj_m27 (1, 1) = true := by decide +kernel
set_option maxRecDepth 100000 in
theorem pj_mn27 : plainName pj_m27.1.cls = true := pj_pl4
set_option maxRecDepth 100000 in
theorem pj_mr27 : pj_okRL pj_m27 = true := by decide +kernel
set_option maxRecDepth 100000 in
theorem pj_ml28 : pj_okm pj_m28 (1, 1) = true := by decide +kernel
set_option maxRecDepth 100000 in
theorem pj_mn28 : plainName pj_m28.1.cls = true := pj_pl4
set_option maxRecDepth 100000 in
theorem pj_mr28 : pj_okRL pj_m28 = true := by decide +kernel
set_option maxRecDepth 100000 in
theorem pj_ml29 : pj_okm pj_m29 (1, 1) = true := by decide +kernel
set_option maxRecDepth 100000 in
theorem pj_mn29 : plainName pj_m29.1.cls = true := pj_pl4
set_option maxRecDepth 100000 in
theorem pj_mr29 : pj_okRL pj_m29 = true := by decide +kernel
set_option maxRecDepth 100000 in
theorem pj_ml30 : pj_okm pj_m30 (1, 1) = true := by decide +kernel
set_option maxRecDepth 100000 in
theorem pj_mn30 : plainName pj_m30.1.cls = true := pj_pl4
set_option maxRecDepth 100000 in
theorem pj_mr30 : pj_okRL pj_m30 = true := by decide +kernel
set_option maxRecDepth 100000 in
theorem pj_ml31 : pj_okm pj_m31 (1, 1) = true := by decide +kernel
set_option maxRecDepth 100000 in
theorem pj_mn31 : plainName pj_m31.1.cls = true := pj_pl4
set_option maxRecDepth 100000 in
theorem pj_mr31 : pj_okRL pj_m31 = true := by decide +kernel
set_option maxRecDepth 100000 in
theorem pj_ml32 : pj_okm pj_m32 (0, 2) = true := by decide +kernel
set_option maxRecDepth 100000 in
theorem pj_mn32 : plainName pj_m32.1.cls = true := pj_pl5
set_option maxRecDepth 100000 in
theorem pj_mr32 : pj_okRL pj_m32 = true := by decide +kernel
set_option maxRecDepth 100000 in
theorem pj_ml33 : pj_okm pj_m33 (1, 1) = true := by decide +kernel
set_option maxRecDepth 100000 in
theorem pj_mn33 : plainName pj_m33.1.cls = true := pj_pl5
set_option maxRecDepth 100000 in
theorem pj_mr33 : pj_okRL pj_m33 = true := by decide +kernel
set_option maxRecDepth 100000 in
theorem pj_ml34 : pj_okm pj_m34 (1, 1) = true := by decide +kernel
set_option maxRecDepth 100000 in
theorem pj_mn34 : plainName pj_m34.1.cls = true := pj_pl5
set_option maxRecDepth 100000 in
theorem pj_mr34 : pj_okRL pj_m34 = true := by decide +kernel
set_option maxRecDepth 100000 in
theorem pj_ml35 : pj_okm pj_m35 (0, 1) = true := by decide +kernel
set_option maxRecDepth 100000 in
theorem pj_mn35 : plainName pj_m35.1.cls = true := pj_pl5
set_option maxRecDepth 100000 in
theorem pj_mr35 : pj_okRL pj_m35 = true := by decide +kernel
set_option maxRecDepth 100000 in
theorem pj_ml36 : pj_okm pj_m36 (0, 1) = true := by decide +kernel
set_option maxRecDepth 100000 in
theorem pj_mn36 : plainName pj_m36.1.cls = true := pj_pl5
set_option maxRecDepth 100000 in
theorem pj_mr36 : pj_okRL pj_m36 = true := by decide +kernel
set_option maxRecDepth 100000 in
theorem pj_ml37 : pj_okm pj_m37 (0, 1) = true := by decide +kernel
set_option maxRecDepth 100000 in
theorem pj_mn37 : plainName pj_m37.1.cls = true := pj_pl5
set_option maxRecDepth 100000 in
theorem pj_mr37 : pj_okRL pj_m37 = true := by decide +kernel
set_option maxRecDepth 100000 in
theorem pj_ml38 : pj_okm pj_m38 (2, 1) = true := by decide +kernel
set_option maxRecDepth 100000 in
theorem pj_mn38 : plainName pj_m38.1.cls = true := pj_pl5
set_option maxRecDepth 100000 in
theorem pj_mr38 : pj_okRL pj_m38 = true := by decide +kernel
set_option maxRecDepth 100000 in
theorem pj_ml39 : pj_okm pj_m39 (2, 1) = true := by decide +kernel
set_option maxRecDepth 100000 in
theorem pj_mn39 : plainName pj_m39.1.cls = true := pj_pl5
set_option maxRecDepth 100000 in
theorem pj_mr39 : pj_okRL pj_m39 = true := by decide +kernel
set_option maxRecDepth 100000 in
theorem pj_ml40 : pj_okm pj_m40 (0, 2) = true := by decide +kernel
set_option maxRecDepth 100000 in
theorem pj_mn40 : plainName pj_m40.1.cls = true := pj_pl6
set_option maxRecDepth 100000 in
theorem pj_mr40 : pj_okRL pj_m40 = true := by decide +kernel
set_option maxRecDepth 100000 in
theorem pj_ml41 : pj_okm pj_m41 (1, 1) = true := by decide +kernel
set_option maxRecDepth 100000 in
theorem pj_mn41 : plainName pj_m41.1.cls = true := pj_pl6
set_option maxRecDepth 100000 in
theorem pj_mr41 : pj_okRL pj_m41 = true := by decide +kernel
set_option maxRecDepth 100000 in
theorem pj_ml42 : pj_okm pj_m42 (0, 1) = true := by decide +kernel
set_option maxRecDepth 100000 in
theorem pj_mn42 : plainName pj_m42.1.cls = true := pj_pl6
set_option maxRecDepth 100000 in
theorem pj_mr42 : pj_okRL pj_m42 = true := by decide +kernel
set_option maxRecDepth 100000 in
theorem pj_ml43 : pj_okm pj_m43 (1, 1) = true := by decide +kernel
set_option maxRecDepth 100000 in
theorem pj_mn43 : plainName pj_m43.1.cls = true := pj_pl6
set_option maxRecDepth 100000 in
theorem pj_mr43 : pj_okRL pj_m43 = true := by decide +kernel
set_option maxRecDepth 100000 in
theorem pj_ml44 : pj_okm pj_m44 (2, 1) = true := by decide +kernel
set_option maxRecDepth 100000 in
theorem pj_mn44 : plainName pj_m44.1.cls = true := pj_pl6
set_option maxRecDepth 100000 in
theorem pj_mr44 : pj_okRL pj_m44 = true := by decide +kernel
set_option maxRecDepth 100000 in
theorem pj_ml45 : pj_okm pj_m45 (2, 1) = true := by decide +kernel
set_option maxRecDepth 100000 in
theorem pj_mn45 : plainName pj_m45.1.cls = true := pj_pl6
set_option maxRecDepth 100000 in
theorem pj_mr45 : pj_okRL pj_m45 = true := by decide +kernel
set_option maxRecDepth 100000 in
theorem pj_ml46 : pj_okm pj_m46 (3, 1) = true := by decide +kernel
set_option maxRecDepth 100000 in
theorem pj_mn46 : plainName pj_m46.1.cls = true := pj_pl6
set_option maxRecDepth 100000 in
theorem pj_mr46 : pj_okRL pj_m46 = true := by decide +kernel
set_option maxRecDepth 100000 in
theorem pj_ml47 : pj_okm pj_m47 (2, 1) = true := by decide +kernel
set_option maxRecDepth 100000 in
theorem pj_mn47 : plainName pj_m47.1.cls = true := pj_pl6
set_option maxRecDepth 100000 in
theorem pj_mr47 : pj_okRL pj_m47 = true := by decide +kernel
set_option maxRecDepth 100000 in
theorem pj_ml48 : pj_okm pj_m48 (3, 1) = true := by decide +kernel
set_option maxRecDepth 100000 in
theorem pj_mn48 : plainName pj_m48.1.cls = true := pj_pl6
set_option maxRecDepth 100000 in
theorem pj_mr48 : pj_okRL pj_m48 = true := by decide +kernel
