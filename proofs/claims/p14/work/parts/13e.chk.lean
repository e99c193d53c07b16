set_option maxRecDepth 100000 in
theorem pj_ml109 : pj_okm pj_m109 (1, 1) = true := by decide +kernel
set_option maxRecDepth 100000 in
theorem pj_mn109 : plainName pj_m109.1.cls = true := pj_pl11
set_option maxRecDepth 100000 in
theorem pj_mr109 : pj_okRL pj_m109 = true := by decide +kernel
set_option maxRecDepth 100000 in
theorem pj_ml110 : pj_okm pj_m110 (2, 1) = true := by decide +kernel
set_option maxRecDepth 100000 in
theorem pj_mn110 : plainName pj_m110.1.cls = true := pj_pl11
set_option maxRecDepth 100000 in
theorem pj_mr110 : pj_okRL pj_m110 = true := by decide +kernel
set_option maxRecDepth 100000 in
theorem pj_ml111 : pj_okm pj_m111 (4, 1) = true := by decide +kernel
set_option maxRecDepth 100000 in
theorem pj_mn111 : plainName pj_m111.1.cls = true := pj_pl11
set_option maxRecDepth 100000 in
theorem pj_mr111 : pj_okRL pj_m111 = true := by decide +kernel
set_option maxRecDepth 100000 in
theorem pj_ml112 : pj_okm pj_m112 (4, 1) = true := by decide +kernel
set_option maxRecDepth 100000 in
theorem pj_mn112 : plainName pj_m112.1.cls = true := pj_pl11
set_option maxRecDepth 100000 in
theorem pj_mr112 : pj_okRL pj_m112 = true := by decide +kernel
set_option maxRecDepth 100000 in
theorem pj_ml113 : pj_okm pj_m113 (4, 1) = true := by decide +kernel
set_option maxRecDepth 100000 in
theorem pj_mn113 : plainName pj_m113.1.cls = true := pj_pl11
set_option maxRecDepth 100000 in
theorem pj_mr113 : pj_okRL pj_m113 = true := by decide +kernel
set_option maxRecDepth 100000 in
theorem pj_ml114 : pj_okm pj_m114 (6, 1) = true := by decide +kernel
set_option maxRecDepth 100000 in
theorem pj_mn114 : plainName pj_m114.1.cls = true := pj_pl11
set_option maxRecDepth 100000 in
theorem pj_mr114 : pj_okRL pj_m114 = true := by decide +kernel
set_option maxRecDepth 100000 in
theorem pj_ml115 : pj_okm pj_m115 (1, 1) = true := by decide +kernel
set_option maxRecDepth 100000 in
theorem pj_mn115 : plainName pj_m115.1.cls = true := pj_pl11
set_option maxRecDepth 100000 in
theorem pj_mr115 : pj_okRL pj_m115 = true := by decide +kernel
set_option maxRecDepth 100000 in
theorem pj_ml116 : pj_okm pj_m116 (0, 2) = true := by decide +kernel
set_option maxRecDepth 100000 in
theorem pj_mn116 : plainName pj_m116.1.cls = true := pj_pl0
set_option maxRecDepth 100000 in
theorem pj_mr116 : pj_okRL pj_m116 = true := by decide +kernel
set_option maxRecDepth 100000 in
theorem pj_ml117 : pj_okm pj_m117 (1, 1) = true := by decide +kernel
set_option maxRecDepth 100000 in
theorem pj_mn117 : plainName pj_m117.1.cls = true := pj_pl0
set_option maxRecDepth 100000 in
theorem pj_mr117 : pj_okRL pj_m117 = true := by decide +kernel
set_option maxRecDepth 100000 in
theorem pj_ml118 : pj_okm pj_m118 (1, 1) = true := by decide +kernel
set_option maxRecDepth 100000 in
theorem pj_mn118 : plainName pj_m118.1.cls = true := pj_pl0
set_option maxRecDepth 100000 in
theorem pj_mr118 : pj_okRL pj_m118 = true := by decide +kernel
set_option maxRecDepth 100000 in
theorem pj_ml119 : pj_okm pj_m119 (0, 1) = true := by decide +kernel
set_option maxRecDepth 100000 in
theorem pj_mn119 : plainName pj_m119.1.cls = true := pj_pl0
set_option maxRecDepth 100000 in
theorem pj_mr119 : pj_okRL pj_m119 = true := by decide +kernel
set_option maxRecDepth 100000 in
theorem pj_ml120 : pj_okm pj_m120 (0, 1) = true := by decide +kernel
set_option maxRecDepth 100000 in
theorem pj_mn120 : plainName pj_m120.1.cls = true := pj_pl0
set_option maxRecDepth 100000 in
theorem pj_mr120 : pj_okRL pj_m120 = true := by decide +kernel
set_option maxRecDepth 100000 in
theorem pj_ml121 : pj_okm pj_m121 (0, 1) = true := by decide +kernel
set_option maxRecDepth 100000 in
theorem pj_mn121 : plainName pj_m121.1.cls = true := pj_pl0
set_option maxRecDepth 100000 in
theorem pj_mr121 : pj_okRL pj_m121 = true := by decide +kernel
set_option maxRecDepth 100000 in
theorem pj_ml122 : pj_okm pj_m122 (0, 1) = true := by decide +kernel
set_option maxRecDepth 100000 in
theorem pj_mn122 : plainName pj_m122.1.cls = true := pj_pl0
set_option maxRecDepth 100000 in
theorem pj_mr122 : pj_okRL pj_m122 = true := by decide +kernel
set_option maxRecDepth 100000 in
theorem pj_ml123 : pj_okm pj_m123 (0, 3) = true := by decide +kernel
set_option maxRecDepth 100000 in
theorem pj_mn123 : plainName pj_m123.1.cls = true := pj_pl0
set_option maxRecDepth 100000 in
theorem pj_mr123 : pj_okRL pj_m123 = true := by decide +kernel
set_option maxRecDepth 100000 in
theorem pj_ml124 : pj_okm pj_m124 (0, 3) = true := by decide +kernel
set_option maxRecDepth 100000 in
theorem pj_mn124 : plainName pj_m124.1.cls = true := pj_pl0
set_option maxRecDepth 100000 in
theorem pj_mr124 : pj_okRL pj_m124 = true := by decide +kernel
set_option maxRecDepth 100000 in
theorem pj_ml125 : pj_okm pj_m125 (0, 3) = true := by decide +kernel
set_option maxRecDepth 100000 in
theorem pj_mn125 : plainName pj_m125.1.cls = true := pj_pl0
set_option maxRecDepth 100000 in
theorem pj_mr125 : pj_okRL pj_m125 = true := by decide +kernel
set_option maxRecDepth 100000 in
theorem pj_ml126 : pj_okm pj_m126 (4, 1) = true := by decide +kernel
set_option maxRecDepth 100000 in
theorem pj_mn126 : plainName pj_m126.1.cls = true := pj_pl0
set_option maxRecDepth 100000 in
theorem pj_mr126 : pj_okRL pj_m126 = true := by decide +kernel
set_option maxRecDepth 100000 in
theorem pj_ml127 : pj_okm pj_m127 (2, 1) = true := by decide +kernel
set_option maxRecDepth 100000 in
theorem pj_mn127 : plainName pj_m127.1.cls = true := pj_pl0
set_option maxRecDepth 100000 in
theorem pj_mr127 : pj_okRL pj_m127 = true := by decide +kernel
set_option maxRecDepth 100000 in
theorem pj_ml128 : pj_okm pj_m128 (2, 1) = true := by decide +kernel
set_option maxRecDepth 100000 in
theorem pj_mn128 : plainName pj_m128.1.cls = true := pj_pl0
set_option maxRecDepth 100000 in
theorem pj_mr128 : pj_okRL pj_m128 = true := by decide +kernel
set_option maxRecDepth 100000 in
theorem pj_ml129 : pj_okm pj_m129 (2, 1) = true := by decide +kernel
set_option maxRecDepth 100000 in
theorem pj_mn129 : plainName pj_m129.1.cls = true := pj_pl0
set_option maxRecDepth 100000 in
theorem pj_mr129 : pj_okRL pj_m129 = true := by decide +kernel
set_option maxRecDepth 100000 in
theorem pj_ml130 : pj_okm pj_m130 (2, 1) = true := by decide +kernel
set_option maxRecDepth 100000 in
theorem pj_mn130 : plainName pj_m130.1.cls = true := pj_pl0
set_option maxRecDepth 100000 in
theorem pj_mr130 : pj_okRL pj_m130 = true := by decide +kernel
set_option maxRecDepth 100000 in
theorem pj_ml131 : pj_okm pj_m131 (1, 1) = true := by decide +kernel
set_option maxRecDepth 100000 in
theorem pj_mn131 : plainName pj_m131.1.cls = true := pj_pl0
set_option maxRecDepth 100000 in
theorem pj_mr131 : pj_okRL pj_m131 = true := by decide +kernel
set_option maxRecDepth 100000 in
theorem pj_ml132 : pj_okm pj_m132 (0, 1) = true := by decide +kernel
set_option maxRecDepth 100000 in
theorem pj_mn132 : plainName pj_m132.1.cls = true := pj_pl0
set_option maxRecDepth 100000 in
theorem pj_mr132 : pj_okRL pj_m132 = true := by decide +kernel
set_option maxRecDepth 100000 in
theorem pj_ml133 : pj_okm pj_m133 (0, 1) = true := by decide +kernel
set_option maxRecDepth 100000 in
theorem pj_mn133 : plainName pj_m133.1.cls = true := pj_pl0
set_option maxRecDepth 100000 in
theorem pj_mr133 : pj_okRL pj_m133 = true := by decide +kernel
