set_option maxRecDepth 100000 in
theorem pj_ml256 : pj_okm pj_m256 (1, 1) = true := by decide +kernel
set_option maxRecDepth 100000 in
theorem pj_mn256 : plainName pj_m256.1.cls = true := pj_pl12
set_option maxRecDepth 100000 in
theorem pj_mr256 : pj_okRL pj_m256 = true := by decide +kernel
set_option maxRecDepth 100000 in
theorem pj_ml257 : pj_okm pj_m257 (1, 1) = true := by decide +kernel
set_option maxRecDepth 100000 in
theorem pj_mn257 : plainName pj_m257.1.cls = true := pj_pl12
set_option maxRecDepth 100000 in
theorem pj_mr257 : pj_okRL pj_m257 = true := by decide +kernel
set_option maxRecDepth 100000 in
theorem pj_ml258 : pj_okm pj_m258 (3, 1) = true := by decide +kernel
set_option maxRecDepth 100000 in
theorem pj_mn258 : plainName pj_m258.1.cls = true := pj_pl12
set_option maxRecDepth 100000 in
theorem pj_mr258 : pj_okRL pj_m258 = true := by decide +kernel
set_option maxRecDepth 100000 in
theorem pj_ml259 : pj_okm pj_m259 (1, 1) = true := by decide +kernel
set_option maxRecDepth 100000 in
theorem pj_mn259 : plainName pj_m259.1.cls = true := pj_pl12
set_option maxRecDepth 100000 in
theorem pj_mr259 : pj_okRL pj_m259 = true := by decide +kernel
set_option maxRecDepth 100000 in
theorem pj_ml260 : pj_okm pj_m260 (4, 1) = true := by decide +kernel
set_option maxRecDepth 100000 in
theorem pj_mn260 : plainName pj_m260.1.cls = true := pj_pl12
set_option maxRecDepth 100000 in
theorem pj_mr260 : pj_okRL pj_m260 = true := by decide +kernel
set_option maxRecDepth 100000 in
theorem pj_ml261 : pj_okm pj_m261 (3, 1) = true := by decide +kernel
set_option maxRecDepth 100000 in
theorem pj_mn261 : plainName pj_m261.1.cls = true := pj_pl12
set_option maxRecDepth 100000 in
theorem pj_mr261 : pj_okRL pj_m261 = true := by decide +kernel
set_option maxRecDepth 100000 in
theorem pj_ml262 : pj_okm pj_m262 (1, 0) = true := by decide +kernel
set_option maxRecDepth 100000 in
theorem pj_mn262 : plainName pj_m262.1.cls = true := pj_pl12
set_option maxRecDepth 100000 in
theorem pj_mr262 : pj_okRL pj_m262 = true := by decide +kernel
set_option maxRecDepth 100000 in
theorem pj_ml263 : pj_okm pj_m263 (3, 1) = true := by decide +kernel
set_option maxRecDepth 100000 in
theorem pj_mn263 : plainName pj_m263.1.cls = true := pj_pl12
set_option maxRecDepth 100000 in
theorem pj_mr263 : pj_okRL pj_m263 = true := by decide +kernel
set_option maxRecDepth 100000 in
theorem pj_ml264 : pj_okm pj_m264 (0, 1) = true := by decide +kernel
set_option maxRecDepth 100000 in
theorem pj_mn264 : plainName pj_m264.1.cls = true := pj_pl12
set_option maxRecDepth 100000 in
theorem pj_mr264 : pj_okRL pj_m264 = true := by decide +kernel
set_option maxRecDepth 100000 in
theorem pj_ml265 : pj_okm pj_m265 (3, 1) = true := by decide +kernel
set_option maxRecDepth 100000 in
theorem pj_mn265 : plainName pj_m265.1.cls = true := pj_pl12
set_option maxRecDepth 100000 in
theorem pj_mr265 : pj_okRL pj_m265 = true := by decide +kernel
set_option maxRecDepth 100000 in
theorem pj_ml266 : pj_okm pj_m266 (0, 1) = true := by decide +kernel
set_option maxRecDepth 100000 in
theorem pj_mn266 : plainName pj_m266.1.cls = true := pj_pl12
set_option maxRecDepth 100000 in
theorem pj_mr266 : pj_okRL pj_m266 = true := by decide +kernel
set_option maxRecDepth 100000 in
theorem pj_ml267 : pj_okm pj_m267 (0, 1) = true := by decide +kernel
set_option maxRecDepth 100000 in
theorem pj_mn267 : plainName pj_m267.1.cls = true := pj_pl12
set_option maxRecDepth 100000 in
theorem pj_mr267 : pj_okRL pj_m267 = true := by decide +kernel
set_option maxRecDepth 100000 in
theorem pj_ml268 : pj_okm pj_m268 (0, 1) = true := by decide +kernel
set_option maxRecDepth 100000 in
theorem pj_mn268 : plainName pj_m268.1.cls = true := pj_pl12
set_option maxRecDepth 100000 in
theorem pj_mr268 : pj_okRL pj_m268 = true := by decide +kernel
set_option maxRecDepth 100000 in
theorem pj_ml269 : pj_okm pj_m269 (4, 1) = true := by decide +kernel
set_option maxRecDepth 100000 in
theorem pj_mn269 : plainName pj_m269.1.cls = true := pj_pl12
set_option maxRecDepth 100000 in
theorem pj_mr269 : pj_okRL pj_m269 = true := by decide +kernel
set_option maxRecDepth 100000 in
theorem pj_ml270 : pj_okm pj_m270 (3, 1) = true := by decide +kernel
set_option maxRecDepth 100000 in
theorem pj_mn270 : plainName pj_m270.1.cls = true := pj_pl12
set_option maxRecDepth 100000 in
theorem pj_mr270 : pj_okRL pj_m270 = true := by decide +kernel
set_option maxRecDepth 100000 in
theorem pj_ml271 : pj_okm pj_m271 (4, 1) = true := by decide +kernel
set_option maxRecDepth 100000 in
theorem pj_mn271 : plainName pj_m271.1.cls = true := pj_pl12
set_option maxRecDepth 100000 in
theorem pj_mr271 : pj_okRL pj_m271 = true := by decide +kernel
set_option maxRecDepth 100000 in
theorem pj_ml272 : pj_okm pj_m272 (3, 1) = true := by decide +kernel
set_option maxRecDepth 100000 in
theorem pj_mn272 : plainName pj_m272.1.cls = true := pj_pl12
set_option maxRecDepth 100000 in
theorem pj_mr272 : pj_okRL pj_m272 = true := by decide +kernel
set_option maxRecDepth 100000 in
theorem pj_ml273 : pj_okm pj_m273 (3, 0) = true := by decide +kernel
set_option maxRecDepth 100000 in
theorem pj_mn273 : plainName pj_m273.1.cls = true := pj_pl12
set_option maxRecDepth 100000 in
theorem pj_mr273 : pj_okRL pj_m273 = true := by decide +kernel
