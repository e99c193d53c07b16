set_option maxRecDepth 100000 in
theorem pj_mk274 : pj_okR pj_prog pj_m274 = true := by decide +kernel
set_option maxRecDepth 100000 in
theorem pj_mk275 : pj_okR pj_prog pj_m275 = true := by decide +kernel
set_option maxRecDepth 100000 in
theorem pj_mk276 : pj_okR pj_prog pj_m276 = true := by decide +kernel
set_option maxRecDepth 100000 in
theorem pj_mk277 : pj_okR pj_prog pj_m277 = true := by decide +kernel
set_option maxRecDepth 100000 in
theorem pj_mk278 : pj_okR pj_prog pj_m278 = true := by decide +kernel
set_option maxRecDepth 100000 in
theorem pj_mk279 : pj_okR pj_prog pj_m279 = true := by decide +kernel
set_option maxRecDepth 100000 in
theorem pj_mk280 : pj_okR pj_prog pj_m280 = true := by decide +kernel
set_option maxRecDepth 100000 in
theorem pj_mk281 : pj_okR pj_prog pj_m281 = true := by decide +kernel
set_option maxRecDepth 100000 in
theorem pj_mk282 : pj_okR pj_prog pj_m282 = true := by decide +kernel
set_option maxRecDepth 100000 in
theorem pj_mk283 : pj_okR pj_prog pj_m283 = true := by decide +kernel
set_option maxRecDepth 100000 in
theorem pj_mk284 : pj_okR pj_prog pj_m284 = true := by decide +kernel
set_option maxRecDepth 100000 in
theorem pj_mk285 : pj_okR pj_prog pj_m285 = true := by decide +kernel
set_option maxRecDepth 100000 in
theorem pj_mk286 : pj_okR pj_prog pj_m286 = true := by decide +kernel
set_option maxRecDepth 100000 in
theorem pj_mk287 : pj_okR pj_prog pj_m287 = true := by decide +kernel
set_option maxRecDepth 100000 in
theorem pj_mk288 : pj_okR pj_prog pj_m288 = true := by decide +kernel
set_option maxRecDepth 100000 in
theorem pj_mk289 : pj_okR pj_prog pj_m289 = true := by decide +kernel
set_option maxRecDepth 100000 in
theorem pj_mk290 : pj_okR pj_prog pj_m290 = true := by decide +kernel
