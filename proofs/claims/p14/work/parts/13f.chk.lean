set_option maxRecDepth 100000 in
theorem pj_ml134 : pj_okm pj_m134 (2, 1) = true := by decide +kernel
set_option maxRecDepth 100000 in
theorem pj_mn134 : plainName pj_m134.1.cls = true := pj_pl0
set_option maxRecDepth 100000 in
theorem pj_mr134 : pj_okRL pj_m134 = true := by decide +kernel
set_option maxRecDepth 100000 in
theorem pj_ml135 : pj_okm pj_m135 (1, 1) = true := by decide +kernel
set_option maxRecDepth 100000 in
theorem pj_mn135 : plainName pj_m135.1.cls = true := pj_pl0
set_option maxRecDepth 100000 in
theorem pj_mr135 : pj_okRL pj_m135 = true := by decide +kernel
set_option maxRecDepth 100000 in
theorem pj_ml136 : pj_okm pj_m136 (2, 1) = true := by decide +kernel
set_option maxRecDepth 100000 in
theorem pj_mn136 : plainName pj_m136.1.cls = true := pj_pl0
set_option maxRecDepth 100000 in
theorem pj_mr136 : pj_okRL pj_m136 = true := by decide +kernel
set_option maxRecDepth 100000 in
theorem pj_ml137 : pj_okm pj_m137 (2, 1) = true := by decide +kernel
set_option maxRecDepth 100000 in
theorem pj_mn137 : plainName pj_m137.1.cls = true := pj_pl0
set_option maxRecDepth 100000 in
theorem pj_mr137 : pj_okRL pj_m137 = true := by decide +kernel
set_option maxRecDepth 100000 in
theorem pj_ml138 : pj_okm pj_m138 (0, 1) = true := by decide +kernel
set_option maxRecDepth 100000 in
theorem pj_mn138 : plainName pj_m138.1.cls = true := pj_pl0
set_option maxRecDepth 100000 in
theorem pj_mr138 : pj_okRL pj_m138 = true := by decide +kernel
set_option maxRecDepth 100000 in
theorem pj_ml139 : pj_okm pj_m139 (1, 1) = true := by decide +kernel
set_option maxRecDepth 100000 in
theorem pj_mn139 : plainName pj_m139.1.cls = true := pj_pl0
set_option maxRecDepth 100000 in
theorem pj_mr139 : pj_okRL pj_m139 = true := by decide +kernel
set_option maxRecDepth 100000 in
theorem pj_ml140 : pj_okm pj_m140 (1, 1) = true := by decide +kernel
set_option maxRecDepth 100000 in
theorem pj_mn140 : plainName pj_m140.1.cls = true := pj_pl0
set_option maxRecDepth 100000 in
theorem pj_mr140 : pj_okRL pj_m140 = true := by decide +kernel
set_option maxRecDepth 100000 in
theorem pj_ml141 : pj_okm pj_m141 (0, 1) = true := by decide +kernel
set_option maxRecDepth 100000 in
theorem pj_mn141 : plainName pj_m141.1.cls = true := pj_pl0
set_option maxRecDepth 100000 in
theorem pj_mr141 : pj_okRL pj_m141 = true := by decide +kernel
set_option maxRecDepth 100000 in
theorem pj_ml142 : pj_okm pj_m142 (0, 1) = true := by decide +kernel
set_option maxRecDepth 100000 in
theorem pj_mn142 : plainName pj_m142.1.cls = true := pj_pl0
set_option maxRecDepth 100000 in
theorem pj_mr142 : pj_okRL pj_m142 = true := by decide +kernel
set_option maxRecDepth 100000 in
theorem pj_ml143 : pj_okm pj_m143 (1, 1) = true := by decide +kernel
set_option maxRecDepth 100000 in
theorem pj_mn143 : plainName pj_m143.1.cls = true := pj_pl0
set_option maxRecDepth 100000 in
theorem pj_mr143 : pj_okRL pj_m143 = true := by decide +kernel
set_option maxRecDepth 100000 in
theorem pj_ml144 : pj_okm pj_m144 (0, 1) = true := by decide +kernel
set_option maxRecDepth 100000 in
theorem pj_mn144 : plainName pj_m144.1.cls = true := pj_pl0
set_option maxRecDepth 100000 in
theorem pj_mr144 : pj_okRL pj_m144 = true := by decide +kernel
set_option maxRecDepth 100000 in
theorem pj_ml145 : pj_okm pj_m145 (1, 1) = true := by decide +kernel
set_option maxRecDepth 100000 in
theorem pj_mn145 : plainName pj_m145.1.cls = true := pj_pl0
set_option maxRecDepth 100000 in
theorem pj_mr145 : pj_okRL pj_m145 = true := by decide +kernel
set_option maxRecDepth 100000 in
theorem pj_ml146 : pj_okm pj_m146 (4, 1) = true := by decide +kernel
set_option maxRecDepth 100000 in
theorem pj_mn146 : plainName pj_m146.1.cls = true := pj_pl0
set_option maxRecDepth 100000 in
theorem pj_mr146 : pj_okRL pj_m146 = true := by decide +kernel
set_option maxRecDepth 100000 in
theorem pj_ml147 : pj_okm pj_m147 (3, 1) = true := by decide +kernel
set_option maxRecDepth 100000 in
theorem pj_mn147 : plainName pj_m147.1.cls = true := pj_pl0
set_option maxRecDepth 100000 in
theorem pj_mr147 : pj_okRL pj_m147 = true := by decide +kernel
set_option maxRecDepth 100000 in
theorem pj_ml148 : pj_okm pj_m148 (3, 1) = true := by decide +kernel
set_option maxRecDepth 100000 in
theorem pj_mn148 : plainName pj_m148.1.cls = true := pj_pl0
set_option maxRecDepth 100000 in
theorem pj_mr148 : pj_okRL pj_m148 = true := by decide +kernel
set_option maxRecDepth 100000 in
theorem pj_ml149 : pj_okm pj_m149 (0, 1) = true := by decide +kernel
set_option maxRecDepth 100000 in
theorem pj_mn149 : plainName pj_m149.1.cls = true := pj_pl0
set_option maxRecDepth 100000 in
theorem pj_mr149 : pj_okRL pj_m149 = true := by decide +kernel
set_option maxRecDepth 100000 in
theorem pj_ml150 : pj_okm pj_m150 (0, 1) = true := by decide +kernel
set_option maxRecDepth 100000 in
theorem pj_mn150 : plainName pj_m150.1.cls = true := pj_pl0
set_option maxRecDepth 100000 in
theorem pj_mr150 : pj_okRL pj_m150 = true := by decide +kernel
set_option maxRecDepth 100000 in
theorem pj_ml151 : pj_okm pj_m151 (0, 1) = true := by decide +kernel
set_option maxRecDepth 100000 in
theorem pj_mn151 : plainName pj_m151.1.cls = true := pj_pl0
set_option maxRecDepth 100000 in
theorem pj_mr151 : pj_okRL pj_m151 = true := by decide +kernel
set_option maxRecDepth 100000 in
theorem pj_ml152 : pj_okm pj_m152 (4, 1) = true := by decide +kernel
set_option maxRecDepth 100000 in
theorem pj_mn152 : plainName pj_m152.1.cls = true := pj_pl0
set_option maxRecDepth 100000 in
theorem pj_mr152 : pj_okRL pj_m152 = true := by decide +kernel
set_option maxRecDepth 100000 in
theorem pj_ml153 : pj_okm pj_m153 (3, 1) = true := by decide +kernel
set_option maxRecDepth 100000 in
theorem pj_mn153 : plainName pj_m153.1.cls = true := pj_pl0
set_option maxRecDepth 100000 in
theorem pj_mr153 : pj_okRL pj_m153 = true := by decide +kernel
set_option maxRecDepth 100000 in
theorem pj_ml154 : pj_okm pj_m154 (1, 1) = true := by decide +kernel
set_option maxRecDepth 100000 in
theorem pj_mn154 : plainName pj_m154.1.cls = true := pj_pl0
set_option maxRecDepth 100000 in
theorem pj_mr154 : pj_okRL pj_m154 = true := by decide +kernel
