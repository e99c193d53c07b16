set_option maxRecDepth 100000 in
theorem pj_mk224 : pj_okR pj_prog pj_m224 = true := by decide +kernel
set_option maxRecDepth 100000 in
theorem pj_mk225 : pj_okR pj_prog pj_m225 = true := by decide +kernel
set_option maxRecDepth 100000 in
theorem pj_mk226 : pj_okR pj_prog pj_m226 = true := by decide +kernel
set_option maxRecDepth 100000 in
theorem pj_mk227 : pj_okR pj_prog pj_m227 = true := by decide +kernel
set_option maxRecDepth 100000 in
theorem pj_mk228 : pj_okR pj_prog pj_m228 = true := by decide +kernel
set_option maxRecDepth 100000 in
theorem pj_mk229 : pj_okR pj_prog pj_m229 = true := by decide +kernel
set_option maxRecDepth 100000 in
theorem pj_mk230 : pj_okR pj_prog pj_m230 = true := by decide +kernel
set_option maxRecDepth 100000 in
theorem pj_mk231 : pj_okR pj_prog pj_m231 = true := by decide +kernel
set_option maxRecDepth 100000 in
theorem pj_mk232 : pj_okR pj_prog pj_m232 = true := by decide +kernel
set_option maxRecDepth 100000 in
theorem pj_mk233 : pj_okR pj_prog pj_m233 = true := by decide +kernel
set_option maxRecDepth 100000 in
theorem pj_mk234 : pj_okR pj_prog pj_m234 = true := by decide +kernel
set_option maxRecDepth 100000 in
theorem pj_mk235 : pj_okR pj_prog pj_m235 = true := by decide +kernel
set_option maxRecDepth 100000 in
theorem pj_mk236 : pj_okR pj_prog pj_m236 = true := by decide +kernel
set_option maxRecDepth 100000 in
theorem pj_mk237 : pj_okR pj_prog pj_m237 = true := by decide +kernel
set_option maxRecDepth 100000 in
theorem pj_mk238 : pj_okR pj_prog pj_m238 = true := by decide +kernel
set_option maxRecDepth 100000 in
theorem pj_mk239 : pj_okR pj_prog pj_m239 = true := by decide +kernel
