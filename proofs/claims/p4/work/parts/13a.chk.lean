set_option maxRecDepth 100000 in
theorem pj_mk0 : pj_okR pj_prog pj_m0 = true := by decide +kernel
set_option maxRecDepth 100000 in
theorem pj_mk1 : pj_okR pj_prog pj_m1 = true := by decide +kernel
set_option maxRecDepth 100000 in
theorem pj_mk2 : pj_okR pj_prog pj_m2 = true := by decide +kernel
set_option maxRecDepth 100000 in
theorem pj_mk3 : pj_okR pj_prog pj_m3 = true := by decide +kernel
set_option maxRecDepth 100000 in
theorem pj_mk4 : pj_okR pj_prog pj_m4 = true := by decide +kernel
set_option maxRecDepth 100000 in
theorem pj_mk5 : pj_okR pj_prog pj_m5 = true := by decide +kernel
set_option maxRecDepth 100000 in
theorem pj_mk6 : pj_okR pj_prog pj_m6 = true := by decide +kernel
set_option maxRecDepth 100000 in
theorem pj_mk7 : pj_okR pj_prog pj_m7 = true := by decide +kernel
set_option maxRecDepth 100000 in
theorem pj_mk8 : pj_okR pj_prog pj_m8 = true := by decide +kernel
set_option maxRecDepth 100000 in
theorem pj_mk9 : pj_okR pj_prog pj_m9 = true := by decide +kernel
set_option maxRecDepth 100000 in
theorem pj_mk10 : pj_okR pj_prog pj_m10 = true := by decide +kernel
set_option maxRecDepth 100000 in
theorem pj_mk11 : pj_okR pj_prog pj_m11 = true := by decide +kernel
set_option maxRecDepth 100000 in
theorem pj_mk12 : pj_okR pj_prog pj_m12 = true := by decide +kernel
set_option maxRecDepth 100000 in
theorem pj_mk13 : pj_okR pj_prog pj_m13 = true := by decide +kernel
set_option maxRecDepth 100000 in
theorem pj_mk14 : pj_okR pj_prog pj_m14 = true := by decide +kernel
set_option maxRecDepth 100000 in
theorem pj_mk15 : pj_okR pj_prog pj_m15 = true := by decide +kernel
set_option maxRecDepth 100000 in
theorem pj_mk16 : pj_okR pj_prog pj_m16 = true := by decide +kernel
set_option maxRecDepth 100000 in
theorem pj_mk17 : pj_okR pj_prog pj_m17 = true := by decide +kernel
set_option maxRecDepth 100000 in
theorem pj_mk18 : pj_okR pj_prog pj_m18 = true := by decide +kernel
set_option maxRecDepth 100000 in
theorem pj_mk19 : pj_okR pj_prog pj_m19 = true := by decide +kernel
set_option maxRecDepth 100000 in
theorem pj_mk20 : pj_okR pj_prog pj_m20 = true := by decide +kernel
set_option maxRecDepth 100000 in
theorem pj_mk21 : pj_okR pj_prog pj_m21 = true := by decide +kernel
set_option maxRecDepth 100000 in
theorem pj_mk22 : pj_okR pj_prog pj_m22 = true := by decide +kernel
