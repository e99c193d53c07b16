set_option maxRecDepth 100000 in
theorem pj_mk256 : pj_okR pj_prog pj_m256 = true := by decide +kernel
set_option maxRecDepth 100000 in
theorem pj_mk257 : pj_okR pj_prog pj_m257 = true := by decide +kernel
set_option maxRecDepth 100000 in
theorem pj_mk258 : pj_okR pj_prog pj_m258 = true := by decide +kernel
set_option maxRecDepth 100000 in
theorem pj_mk259 : pj_okR pj_prog pj_m259 = true := by decide +kernel
set_option maxRecDepth 100000 in
theorem pj_mk260 : pj_okR pj_prog pj_m260 = true := by decide +kernel
set_option maxRecDepth 100000 in
theorem pj_mk261 : pj_okR pj_prog pj_m261 = true := by decide +kernel
set_option maxRecDepth 100000 in
theorem pj_mk262 : pj_okR pj_prog pj_m262 = true := by decide +kernel
set_option maxRecDepth 100000 in
theorem pj_mk263 : pj_okR pj_prog pj_m263 = true := by decide +kernel
set_option maxRecDepth 100000 in
theorem pj_mk264 : pj_okR pj_prog pj_m264 = true := by decide +kernel
set_option maxRecDepth 100000 in
theorem pj_mk265 : pj_okR pj_prog pj_m265 = true := by decide +kernel
set_option maxRecDepth 100000 in
theorem pj_mk266 : pj_okR pj_prog pj_m266 = true := by decide +kernel
set_option maxRecDepth 100000 in
theorem pj_mk267 : pj_okR pj_prog pj_m267 = true := by decide +kernel
set_option maxRecDepth 100000 in
theorem pj_mk268 : pj_okR pj_prog pj_m268 = true := by decide +kernel
set_option maxRecDepth 100000 in
theorem pj_mk269 : pj_okR pj_prog pj_m269 = true := by decide +kernel
set_option maxRecDepth 100000 in
theorem pj_mk270 : pj_okR pj_prog pj_m270 = true := by decide +kernel
set_option maxRecDepth 100000 in
theorem pj_mk271 : pj_okR pj_prog pj_m271 = true := by decide +kernel
set_option maxRecDepth 100000 in
theorem pj_mk272 : pj_okR pj_prog pj_m272 = true := by decide +kernel
set_option maxRecDepth 100000 in
theorem pj_mk273 : pj_okR pj_prog pj_m273 = true := by decide +kernel
