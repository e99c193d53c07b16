set_option maxRecDepth 100000 in
theorem pj_mk240 : pj_okR pj_prog pj_m240 = true := by decide +kernel
set_option maxRecDepth 100000 in
theorem pj_mk241 : pj_okR pj_prog pj_m241 = true := by decide +kernel
set_option maxRecDepth 100000 in
theorem pj_mk242 : pj_okR pj_prog pj_m242 = true := by decide +kernel
set_option maxRecDepth 100000 in
theorem pj_mk243 : pj_okR pj_prog pj_m243 = true := by decide +kernel
set_option maxRecDepth 100000 in
theorem pj_mk244 : pj_okR pj_prog pj_m244 = true := by decide +kernel
set_option maxRecDepth 100000 in
theorem pj_mk245 : pj_okR pj_prog pj_m245 = true := by decide +kernel
set_option maxRecDepth 100000 in
theorem pj_mk246 : pj_okR pj_prog pj_m246 = true := by decide +kernel
set_option maxRecDepth 100000 in
theorem pj_mk247 : pj_okR pj_prog pj_m247 = true := by decide +kernel
set_option maxRecDepth 100000 in
theorem pj_mk248 : pj_okR pj_prog pj_m248 = true := by decide +kernel
set_option maxRecDepth 100000 in
theorem pj_mk249 : pj_okR pj_prog pj_m249 = true := by decide +kernel
set_option maxRecDepth 100000 in
theorem pj_mk250 : pj_okR pj_prog pj_m250 = true := by decide +kernel
set_option maxRecDepth 100000 in
theorem pj_mk251 : pj_okR pj_prog pj_m251 = true := by decide +kernel
set_option maxRecDepth 100000 in
theorem pj_mk252 : pj_okR pj_prog pj_m252 = true := by decide +kernel
set_option maxRecDepth 100000 in
theorem pj_mk253 : pj_okR pj_prog pj_m253 = true := by decide +kernel
set_option maxRecDepth 100000 in
theorem pj_mk254 : pj_okR pj_prog pj_m254 = true := by decide +kernel
set_option maxRecDepth 100000 in
theorem pj_mk255 : pj_okR pj_prog pj_m255 = true := by decide +kernel
