set_option maxRecDepth 100000 in
theorem pj_ml274 : pj_okm pj_m274 (3, 0) = true := by decide +kernel
set_option maxRecDepth 100000 in
theorem pj_mn274 : plainName pj_m274.1.cls = true := pj_pl12
set_option maxRecDepth 100000 in
theorem pj_mr274 : pj_okRL pj_m274 = true := by decide +kernel
set_option maxRecDepth 100000 in
theorem pj_ml275 : pj_okm pj_m275 (1, 1) = true := by decide +kernel
set_option maxRecDepth 100000 in
theorem pj_mn275 : plainName pj_m275.1.cls = true := pj_pl12
set_option maxRecDepth 100000 in
theorem pj_mr275 : pj_okRL pj_m275 = true := by decide +kernel
set_option maxRecDepth 100000 in
theorem pj_ml276 : pj_okm pj_m276 (1, 1) = true := by decide +kernel
set_option maxRecDepth 100000 in
theorem pj_mn276 : plainName pj_m276.1.cls = true := pj_pl12
set_option maxRecDepth 100000 in
theorem pj_mr276 : pj_okRL pj_m276 = true := by decide +kernel
set_option maxRecDepth 100000 in
theorem pj_ml277 : pj_okm pj_m277 (0, 1) = true := by decide +kernel
set_option maxRecDepth 100000 in
theorem pj_mn277 : plainName pj_m277.1.cls = true := pj_pl12
set_option maxRecDepth 100000 in
theorem pj_mr277 : pj_okRL pj_m277 = true := by decide +kernel
set_option maxRecDepth 100000 in
theorem pj_ml278 : pj_okm pj_m278 (0, 1) = true := by decide +kernel
set_option maxRecDepth 100000 in
theorem pj_mn278 : plainName pj_m278.1.cls = true := pj_pl12
set_option maxRecDepth 100000 in
theorem pj_mr278 : pj_okRL pj_m278 = true := by decide +kernel
set_option maxRecDepth 100000 in
theorem pj_ml279 : pj_okm pj_m279 (1, 1) = true := by decide +kernel
set_option maxRecDepth 100000 in
theorem pj_mn279 : plainName pj_m279.1.cls = true := pj_pl12
set_option maxRecDepth 100000 in
theorem pj_mr279 : pj_okRL pj_m279 = true := by decide +kernel
set_option maxRecDepth 100000 in
theorem pj_ml280 : pj_okm pj_m280 (2, 1) = true := by decide +kernel
set_option maxRecDepth 100000 in
theorem pj_mn280 : plainName pj_m280.1.cls = true := pj_pl12
set_option maxRecDepth 100000 in
theorem pj_mr280 : pj_okRL pj_m280 = true := by decide +kernel
set_option maxRecDepth 100000 in
theorem pj_ml281 : pj_okm pj_m281 (1, 1) = true := by decide +kernel
set_option maxRecDepth 100000 in
theorem pj_mn281 : plainName pj_m281.1.cls = true := pj_pl12
set_option maxRecDepth 100000 in
theorem pj_mr281 : pj_okRL pj_m281 = true := by decide +kernel
set_option maxRecDepth 100000 in
theorem pj_ml282 : pj_okm pj_m282 (1, 1) = true := by decide +kernel
set_option maxRecDepth 100000 in
theorem pj_mn282 : plainName pj_m282.1.cls = true := pj_pl12
set_option maxRecDepth 100000 in
theorem pj_mr282 : pj_okRL pj_m282 = true := by decide +kernel
set_option maxRecDepth 100000 in
theorem pj_ml283 : pj_okm pj_m283 (1, 1) = true := by decide +kernel
set_option maxRecDepth 100000 in
theorem pj_mn283 : plainName pj_m283.1.cls = true := pj_pl12
set_option maxRecDepth 100000 in
theorem pj_mr283 : pj_okRL pj_m283 = true := by decide +kernel
set_option maxRecDepth 100000 in
theorem pj_ml284 : pj_okm pj_m284 (1, 1) = true := by decide +kernel
set_option maxRecDepth 100000 in
theorem pj_mn284 : plainName pj_m284.1.cls = true := pj_pl12
set_option maxRecDepth 100000 in
theorem pj_mr284 : pj_okRL pj_m284 = true := by decide +kernel
set_option maxRecDepth 100000 in
theorem pj_ml285 : pj_okm pj_m285 (1, 1) = true := by decide +kernel
set_option maxRecDepth 100000 in
theorem pj_mn285 : plainName pj_m285.1.cls = true := pj_pl12
set_option maxRecDepth 100000 in
theorem pj_mr285 : pj_okRL pj_m285 = true := by decide +kernel
set_option maxRecDepth 100000 in
theorem pj_ml286 : pj_okm pj_m286 (1, 0) = true := by decide +kernel
set_option maxRecDepth 100000 in
theorem pj_mn286 : plainName pj_m286.1.cls = true := pj_pl13
set_option maxRecDepth 100000 in
theorem pj_mr286 : pj_okRL pj_m286 = true := by decide +kernel
set_option maxRecDepth 100000 in
theorem pj_ml287 : pj_okm pj_m287 (1, 0) = true := by decide +kernel
set_option maxRecDepth 100000 in
theorem pj_mn287 : plainName pj_m287.1.cls = true := pj_pl13
set_option maxRecDepth 100000 in
theorem pj_mr287 : pj_okRL pj_m287 = true := by decide +kernel
set_option maxRecDepth 100000 in
theorem pj_ml288 : pj_okm pj_m288 (0, 1) = true := by decide +kernel
set_option maxRecDepth 100000 in
theorem pj_mn288 : plainName pj_m288.1.cls = true := pj_pl14
set_option maxRecDepth 100000 in
theorem pj_mr288 : pj_okRL pj_m288 = true := by decide +kernel
set_option maxRecDepth 100000 in
theorem pj_ml289 : pj_okm pj_m289 (1, 1) = true := by decide +kernel
set_option maxRecDepth 100000 in
theorem pj_mn289 : plainName pj_m289.1.cls = true := pj_pl14
set_option maxRecDepth 100000 in
theorem pj_mr289 : pj_okRL pj_m289 = true := by decide +kernel
set_option maxRecDepth 100000 in
theorem pj_ml290 : pj_okm pj_m290 (1, 1) = true := by decide +kernel
set_option maxRecDepth 100000 in
theorem pj_mn290 : plainName pj_m290.1.cls = true := pj_pl14
set_option maxRecDepth 100000 in
theorem pj_mr290 : pj_okRL pj_m290 = true := by decide +kernel
