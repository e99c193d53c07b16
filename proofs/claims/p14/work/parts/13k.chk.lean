set_option maxRecDepth 100000 in
theorem pj_ml240 : pj_okm pj_m240 (2, 1) = true := by decide +kernel
set_option maxRecDepth 100000 in
theorem pj_mn240 : plainName pj_m240.1.cls = true := pj_pl12
set_option maxRecDepth 100000 in
theorem pj_mr240 : pj_okRL pj_m240 = true := by decide +kernel
set_option maxRecDepth 100000 in
theorem pj_ml241 : pj_okm pj_m241 (0, 1) = true := by decide +kernel
set_option maxRecDepth 100000 in
theorem pj_mn241 : plainName pj_m241.1.cls = true := pj_pl12
set_option maxRecDepth 100000 in
theorem pj_mr241 : pj_okRL pj_m241 = true := by decide +kernel
set_option maxRecDepth 100000 in
theorem pj_ml242 : pj_okm pj_m242 (4, 1) = true := by decide +kernel
set_option maxRecDepth 100000 in
theorem pj_mn242 : plainName pj_m242.1.cls = true := pj_pl12
set_option maxRecDepth 100000 in
theorem pj_mr242 : pj_okRL pj_m242 = true := by decide +kernel
set_option maxRecDepth 100000 in
theorem pj_ml243 : pj_okm pj_m243 (1, 1) = true := by decide +kernel
set_option maxRecDepth 100000 in
theorem pj_mn243 : plainName pj_m243.1.cls = true := pj_pl12
set_option maxRecDepth 100000 in
theorem pj_mr243 : pj_okRL pj_m243 = true := by decide +kernel
set_option maxRecDepth 100000 in
theorem pj_ml244 : pj_okm pj_m244 (0, 1) = true := by decide +kernel
set_option maxRecDepth 100000 in
theorem pj_mn244 : plainName pj_m244.1.cls = true := pj_pl12
set_option maxRecDepth 100000 in
theorem pj_mr244 : pj_okRL pj_m244 = true := by decide +kernel
set_option maxRecDepth 100000 in
theorem pj_ml245 : pj_okm pj_m245 (1, 1) = true := by decide +kernel
set_option maxRecDepth 100000 in
theorem pj_mn245 : plainName pj_m245.1.cls = true := pj_pl12
set_option maxRecDepth 100000 in
theorem pj_mr245 : pj_okRL pj_m245 = true := by decide +kernel
set_option maxRecDepth 100000 in
theorem pj_ml246 : pj_okm pj_m246 (1, 1) = true := by decide +kernel
set_option maxRecDepth 100000 in
theorem pj_mn246 : plainName pj_m246.1.cls = true := pj_pl12
set_option maxRecDepth 100000 in
theorem pj_mr246 : pj_okRL pj_m246 = true := by decide +kernel
set_option maxRecDepth 100000 in
theorem pj_ml247 : pj_okm pj_m247 (0, 1) = true := by decide +kernel
set_option maxRecDepth 100000 in
theorem pj_mn247 : plainName pj_m247.1.cls = true := pj_pl12
set_option maxRecDepth 100000 in
theorem pj_mr247 : pj_okRL pj_m247 = true := by decide +kernel
set_option maxRecDepth 100000 in
theorem pj_ml248 : pj_okm pj_m248 (1, 1) = true := by decide +kernel
set_option maxRecDepth 100000 in
theorem pj_mn248 : plainName pj_m248.1.cls = true := pj_pl12
set_option maxRecDepth 100000 in
theorem pj_mr248 : pj_okRL pj_m248 = true := by decide +kernel
set_option maxRecDepth 100000 in
theorem pj_ml249 : pj_okm pj_m249 (0, 1) = true := by decide +kernel
set_option maxRecDepth 100000 in
theorem pj_mn249 : plainName pj_m249.1.cls = true := pj_pl12
set_option maxRecDepth 100000 in
theorem pj_mr249 : pj_okRL pj_m249 = true := by decide +kernel
set_option maxRecDepth 100000 in
theorem pj_ml250 : pj_okm pj_m250 (0, 1) = true := by decide +kernel
set_option maxRecDepth 100000 in
theorem pj_mn250 : plainName pj_m250.1.cls = true := pj_pl12
set_option maxRecDepth 100000 in
theorem pj_mr250 : pj_okRL pj_m250 = true := by decide +kernel
set_option maxRecDepth 100000 in
theorem pj_ml251 : pj_okm pj_m251 (1, 1) = true := by decide +kernel
set_option maxRecDepth 100000 in
theorem pj_mn251 : plainName pj_m251.1.cls = true := pj_pl12
set_option maxRecDepth 100000 in
theorem pj_mr251 : pj_okRL pj_m251 = true := by decide +kernel
set_option maxRecDepth 100000 in
theorem pj_ml252 : pj_okm pj_m252 (1, 1) = true := by decide +kernel
set_option maxRecDepth 100000 in
theorem pj_mn252 : plainName pj_m252.1.cls = true := pj_pl12
set_option maxRecDepth 100000 in
theorem pj_mr252 : pj_okRL pj_m252 = true := by decide +kernel
set_option maxRecDepth 100000 in
theorem pj_ml253 : pj_okm pj_m253 (1, 1) = true := by decide +kernel
set_option maxRecDepth 100000 in
theorem pj_mn253 : plainName pj_m253.1.cls = true := pj_pl12
set_option maxRecDepth 100000 in
theorem pj_mr253 : pj_okRL pj_m253 = true := by decide +kernel
set_option maxRecDepth 100000 in
theorem pj_ml254 : pj_okm pj_m254 (0, 1) = true := by decide +kernel
set_option maxRecDepth 100000 in
theorem pj_mn254 : plainName pj_m254.1.cls = true := pj_pl12
set_option maxRecDepth 100000 in
theorem pj_mr254 : pj_okRL pj_m254 = true := by decide +kernel
set_option maxRecDepth 100000 in
theorem pj_ml255 : pj_okm pj_m255 (1, 1) = true := by decide +kernel
set_option maxRecDepth 100000 in
theorem pj_mn255 : plainName pj_m255.1.cls = true := pj_pl12
set_option maxRecDepth 100000 in
theorem pj_mr255 : pj_okRL pj_m255 = true := by decide +kernel
