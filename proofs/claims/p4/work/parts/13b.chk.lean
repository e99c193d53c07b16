set_option maxRecDepth 100000 in
theorem pj_mk23 : pj_okR pj_prog pj_m23 = true := by decide +kernel
set_option maxRecDepth 100000 in
theorem pj_mk24 : pj_okR pj_prog pj_m24 = true := by decide +kernel
set_option maxRecDepth 100000 in
theorem pj_mk25 : pj_okR pj_prog pj_m25 = true := by decide +kernel
set_option maxRecDepth 100000 in
theorem pj_mk26 : pj_okR pj_prog pj_m26 = true := by decide +kernel
set_option maxRecDepth 100000 in
theorem pj_mk27 : pj_okR pj_prog pj_m27 = true := by decide +kernel
set_option maxRecDepth 100000 in
theorem pj_mk28 : pj_okR pj_prog pj_m28 = true := by decide +kernel
set_option maxRecDepth 100000 in
theorem pj_mk29 : pj_okR pj_prog pj_m29 = true := by decide +kernel
set_option maxRecDepth 100000 in
theorem pj_mk30 : pj_okR pj_prog pj_m30 = true := by decide +kernel
set_option maxRecDepth 100000 in
theorem pj_mk31 : pj_okR pj_prog pj_m31 = true := by decide +kernel
set_option maxRecDepth 100000 in
theorem pj_mk32 : pj_okR pj_prog pj_m32 = true := by decide +kernel
set_option maxRecDepth 100000 in
theorem pj_mk33 : pj_okR pj_prog pj_m33 = true := by decide +kernel
set_option maxRecDepth 100000 in
theorem pj_mk34 : pj_okR pj_prog pj_m34 = true := by decide +kernel
set_option maxRecDepth 100000 in
theorem pj_mk35 : pj_okR pj_prog pj_m35 = true := by decide +kernel
set_option maxRecDepth 100000 in
theorem pj_mk36 : pj_okR pj_prog pj_m36 = true := by decide +kernel
set_option maxRecDepth 100000 in
theorem pj_mk37 : pj_okR pj_prog pj_m37 = true := by decide +kernel
set_option maxRecDepth 100000 in
theorem pj_mk38 : pj_okR pj_prog pj_m38 = true := by decide +kernel
set_option maxRecDepth 100000 in
theorem pj_mk39 : pj_okR pj_prog pj_m39 = true := by decide +kernel
set_option maxRecDepth 100000 in
theorem pj_mk40 : pj_okR pj_prog pj_m40 = true := by decide +kernel
set_option maxRecDepth 100000 in
theorem pj_mk41 : pj_okR pj_prog pj_m41 = true := by decide +kernel
set_option maxRecDepth 100000 in
theorem pj_mk42 : pj_okR pj_prog pj_m42 = true := by decide +kernel
set_option maxRecDepth 100000 in
theorem pj_mk43 : pj_okR pj_prog pj_m43 = true := by decide +kernel
set_option maxRecDepth 100000 in
theorem pj_mk44 : pj_okR pj_prog pj_m44 = true := by decide +kernel
set_option maxRecDepth 100000 in
theorem pj_mk45 : pj_okR pj_prog pj_m45 = true := by decide +kernel
set_option maxRecDepth 100000 in
theorem pj_mk46 : pj_okR pj_prog pj_m46 = true := by decide +kernel
set_option maxRecDepth 100000 in
theorem pj_mk47 : pj_okR pj_prog pj_m47 = true := by decide +kernel
set_option maxRecDepth 100000 in
theorem pj_mk48 : pj_okR pj_prog pj_m48 = true := by decide +kernel
