set_option maxRecDepth 100000 in
theorem pj_ml0 : pj_okm pj_m0 (0, 2) = true := by decide +kernel
set_option maxRecDepth 100000 in
theorem pj_mn0 : plainName pj_m0.1.cls = true := pj_pl1
set_option maxRecDepth 100000 in
theorem pj_mr0 : pj_okRL pj_m0 = true := by decide +kernel
set_option maxRecDepth 100000 in
theorem pj_ml1 : pj_okm pj_m1 (1, 1) = true := by decide +kernel
set_option maxRecDepth 100000 in
theorem pj_mn1 : plainName pj_m1.1.cls = true := pj_pl1
set_option maxRecDepth 100000 in
theorem pj_mr1 : pj_okRL pj_m1 = true := by decide +kernel
set_option maxRecDepth 100000 in
theorem pj_ml2 : pj_okm pj_m2 (2, 1) = true := by decide +kernel
set_option maxRecDepth 100000 in
theorem pj_mn2 : plainName pj_m2.1.cls = true := pj_pl1
set_option maxRecDepth 100000 in
theorem pj_mr2 : pj_okRL pj_m2 = true := by decide +kernel
set_option maxRecDepth 100000 in
theorem pj_ml3 : pj_okm pj_m3 (1, 1) = true := by decide +kernel
set_option maxRecDepth 100000 in
theorem pj_mn3 : plainName pj_m3.1.cls = true := pj_pl1
set_option maxRecDepth 100000 in
theorem pj_mr3 : pj_okRL pj_m3 = true := by decide +kernel
set_option maxRecDepth 100000 in
theorem pj_ml4 : pj_okm pj_m4 (2, 1) = true := by decide +kernel
set_option maxRecDepth 100000 in
theorem pj_mn4 : plainName pj_m4.1.cls = true := pj_pl1
set_option maxRecDepth 100000 in
theorem pj_mr4 : pj_okRL pj_m4 = true := by decide +kernel
set_option maxRecDepth 100000 in
theorem pj_ml5 : pj_okm pj_m5 (1, 2) = true := by decide +kernel
set_option maxRecDepth 100000 in
theorem pj_mn5 : plainName pj_m5.1.cls = true := pj_pl2
set_option maxRecDepth 100000 in
theorem pj_mr5 : pj_okRL pj_m5 = true := by decide +kernel
set_option maxRecDepth 100000 in
theorem pj_ml6 : pj_okm pj_m6 (2, 1) = true := by decide +kernel
set_option maxRecDepth 100000 in
theorem pj_mn6 : plainName pj_m6.1.cls = true := pj_pl2
set_option maxRecDepth 100000 in
theorem pj_mr6 : pj_okRL pj_m6 = true := by decide +kernel
set_option maxRecDepth 100000 in
theorem pj_ml7 : pj_okm pj_m7 (3, 1) = true := by decide +kernel
set_option maxRecDepth 100000 in
theorem pj_mn7 : plainName pj_m7.1.cls = true := pj_pl2
set_option maxRecDepth 100000 in
theorem pj_mr7 : pj_okRL pj_m7 = true := by decide +kernel
set_option maxRecDepth 100000 in
theorem pj_ml8 : pj_okm pj_m8 (1, 1) = true := by decide +kernel
set_option maxRecDepth 100000 in
theorem pj_mn8 : plainName pj_m8.1.cls = true := pj_pl2
set_option maxRecDepth 100000 in
theorem pj_mr8 : pj_okRL pj_m8 = true := by decide +kernel
set_option maxRecDepth 100000 in
theorem pj_ml9 : pj_okm pj_m9 (0, 1) = true := by decide +kernel
set_option maxRecDepth 100000 in
theorem pj_mn9 : plainName pj_m9.1.cls = true := pj_pl2
set_option maxRecDepth 100000 in
theorem pj_mr9 : pj_okRL pj_m9 = true := by decide +kernel
set_option maxRecDepth 100000 in
theorem pj_ml10 : pj_okm pj_m10 (2, 1) = true := by decide +kernel
set_option maxRecDepth 100000 in
theorem pj_mn10 : plainName pj_m10.1.cls = true := pj_pl2
set_option maxRecDepth 100000 in
theorem pj_mr10 : pj_okRL pj_m10 = true := by decide +kernel
set_option maxRecDepth 100000 in
theorem pj_ml11 : pj_okm pj_m11 (2, 0) = true := by decide +kernel
set_option maxRecDepth 100000 in
theorem pj_mn11 : plainName pj_m11.1.cls = true := pj_pl2
set_option maxRecDepth 100000 in
theorem pj_mr11 : pj_okRL pj_m11 = true := by decide +kernel
set_option maxRecDepth 100000 in
theorem pj_ml12 : pj_okm pj_m12 (3, 1) = true := by decide +kernel
set_option maxRecDepth 100000 in
theorem pj_mn12 : plainName pj_m12.1.cls = true := pj_pl2
set_option maxRecDepth 100000 in
theorem pj_mr12 : pj_okRL pj_m12 = true := by decide +kernel
set_option maxRecDepth 100000 in
theorem pj_ml13 : pj_okm pj_m13 (1, 1) = true := by decide +kernel
set_option maxRecDepth 100000 in
theorem pj_mn13 : plainName pj_m13.1.cls = true := pj_pl2
set_option maxRecDepth 100000 in
theorem pj_mr13 : pj_okRL pj_m13 = true := by decide +kernel
set_option maxRecDepth 100000 in
theorem pj_ml14 : pj_okm pj_m14 (0, 1) = true := by decide +kernel
set_option maxRecDepth 100000 in
theorem pj_mn14 : plainName pj_m14.1.cls = true := pj_pl2
set_option maxRecDepth 100000 in
theorem pj_mr14 : pj_okRL pj_m14 = true := by decide +kernel
set_option maxRecDepth 100000 in
theorem pj_ml15 : pj_okm pj_m15 (1, 2) = true := by decide +kernel
set_option maxRecDepth 100000 in
theorem pj_mn15 : plainName pj_m15.1.cls = true := pj_pl3
set_option maxRecDepth 100000 in
theorem pj_mr15 : pj_okRL pj_m15 = true := by decide +kernel
set_option maxRecDepth 100000 in
theorem pj_ml16 : pj_okm pj_m16 (2, 0) = true := by decide +kernel
set_option maxRecDepth 100000 in
theorem pj_mn16 : plainName pj_m16.1.cls = true := pj_pl3
set_option maxRecDepth 100000 in
theorem pj_mr16 : pj_okRL pj_m16 = true := by decide +kernel
set_option maxRecDepth 100000 in
theorem pj_ml17 : pj_okm pj_m17 (3, 1) = true := by decide +kernel
set_option maxRecDepth 100000 in
theorem pj_mn17 : plainName pj_m17.1.cls = true := pj_pl3
set_option maxRecDepth 100000 in
theorem pj_mr17 : pj_okRL pj_m17 = true := by decide +kernel
set_option maxRecDepth 100000 in
theorem pj_ml18 : pj_okm pj_m18 (2, 1) = true := by decide +kernel
set_option maxRecDepth 100000 in
theorem pj_mn18 : plainName pj_m18.1.cls = true := pj_pl3
set_option maxRecDepth 100000 in
theorem pj_mr18 : pj_okRL pj_m18 = true := by decide +kernel
set_option maxRecDepth 100000 in
theorem pj_ml19 : pj_okm pj_m19 (1, 1) = true := by decide +kernel
set_option maxRecDepth 100000 in
theorem pj_mn19 : plainName pj_m19.1.cls = true := pj_pl3
set_option maxRecDepth 100000 in
theorem pj_mr19 : pj_okRL pj_m19 = true := by decide +kernel
set_option maxRecDepth 100000 in
theorem pj_ml20 : pj_okm pj_m20 (0, 1) = true := by decide +kernel
set_option maxRecDepth 100000 in
theorem pj_mn20 : plainName pj_m20.1.cls = true := pj_pl3
set_option maxRecDepth 100000 in
theorem pj_mr20 : pj_okRL pj_m20 = true := by decide +kernel
set_option maxRecDepth 100000 in
theorem pj_ml21 : pj_okm pj_m21 (2, 1) = true := by decide +kernel
set_option maxRecDepth 100000 in
theorem pj_mn21 : plainName pj_m21.1.cls = true := pj_pl3
set_option maxRecDepth 100000 in
theorem pj_mr21 : pj_okRL pj_m21 = true := by decide +kernel
set_option maxRecDepth 100000 in
theorem pj_ml22 : pj_okm pj_m22 (1, 2) = true := by decide +kernel
set_option maxRecDepth 100000 in
theorem pj_mn22 : plainName pj_m22.1.cls = true := pj_pl4
set_option maxRecDepth 100000 in
theorem pj_mr22 : pj_okRL pj_m22 = true := by decide +kernel
