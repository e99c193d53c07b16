set_option maxRecDepth 100000 in
theorem pj_mk83 : pj_okR pj_prog pj_m83 = true := by decide +kernel
set_option maxRecDepth 100000 in
theorem pj_mk84 : pj_okR pj_prog pj_m84 = true := by decide +kernel
set_option maxRecDepth 100000 in
theorem pj_mk85 : pj_okR pj_prog pj_m85 = true := by decide +kernel
set_option maxRecDepth 100000 in
theorem pj_mk86 : pj_okR pj_prog pj_m86 = true := by decide +kernel
set_option maxRecDepth 100000 in
theorem pj_mk87 : pj_okR pj_prog pj_m87 = true := by decide +kernel
set_option maxRecDepth 100000 in
theorem pj_mk88 : pj_okR pj_prog pj_m88 = true := by decide +kernel
set_option maxRecDepth 100000 in
theorem pj_mk89 : pj_okR pj_prog pj_m89 = true := by decide +kernel
set_option maxRecDepth 100000 in
theorem pj_mk90 : pj_okR pj_prog pj_m90 = true := by decide +kernel
set_option maxRecDepth 100000 in
theorem pj_mk91 : pj_okR pj_prog pj_m91 = true := by decide +kernel
set_option maxRecDepth 100000 in
theorem pj_mk92 : pj_okR pj_prog pj_m92 = true := by decide +kernel
set_option maxRecDepth 100000 in
theorem pj_mk93 : pj_okR pj_prog pj_m93 = true := by decide +kernel
set_option maxRecDepth 100000 in
theorem pj_mk94 : pj_okR pj_prog pj_m94 = true := by decide +kernel
set_option maxRecDepth 100000 in
theorem pj_mk95 : pj_okR pj_prog pj_m95 = true := by decide +kernel
set_option maxRecDepth 100000 in
theorem pj_mk96 : pj_okR pj_prog pj_m96 = true := by decide +kernel
set_option maxRecDepth 100000 in
theorem pj_mk97 : pj_okR pj_prog pj_m97 = true := by decide +kernel
set_option maxRecDepth 100000 in
theorem pj_mk98 : pj_okR pj_prog pj_m98 = true := by decide +kernel
set_option maxRecDepth 100000 in
theorem pj_mk99 : pj_okR pj_prog pj_m99 = true := by decide +kernel
set_option maxRecDepth 100000 in
theorem pj_mk100 : pj_okR pj_prog pj_m100 = true := by decide +kernel
set_option maxRecDepth 100000 in
theorem pj_mk101 : pj_okR pj_prog pj_m101 = true := by decide +kernel
set_option maxRecDepth 100000 in
theorem pj_mk102 : pj_okR pj_prog pj_m102 = true := by decide +kernel
set_option maxRecDepth 100000 in
theorem pj_mk103 : pj_okR pj_prog pj_m103 = true := by decide +kernel
set_option maxRecDepth 100000 in
theorem pj_mk104 : pj_okR pj_prog pj_m104 = true := by decide +kernel
set_option maxRecDepth 100000 in
theorem pj_mk105 : pj_okR pj_prog pj_m105 = true := by decide +kernel
set_option maxRecDepth 100000 in
theorem pj_mk106 : pj_okR pj_prog pj_m106 = true := by decide +kernel
set_option maxRecDepth 100000 in
theorem pj_mk107 : pj_okR pj_prog pj_m107 = true := by decide +kernel
set_option maxRecDepth 100000 in
theorem pj_mk108 : pj_okR pj_prog pj_m108 = true := by decide +kernel
