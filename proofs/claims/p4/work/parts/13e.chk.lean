set_option maxRecDepth 100000 in
theorem pj_mk109 : pj_okR pj_prog pj_m109 = true := by decide +kernel
set_option maxRecDepth 100000 in
theorem pj_mk110 : pj_okR pj_prog pj_m110 = true := by decide +kernel
set_option maxRecDepth 100000 in
theorem pj_mk111 : pj_okR pj_prog pj_m111 = true := by decide +kernel
set_option maxRecDepth 100000 in
theorem pj_mk112 : pj_okR pj_prog pj_m112 = true := by decide +kernel
set_option maxRecDepth 100000 in
theorem pj_mk113 : pj_okR pj_prog pj_m113 = true := by decide +kernel
set_option maxRecDepth 100000 in
theorem pj_mk114 : pj_okR pj_prog pj_m114 = true := by decide +kernel
set_option maxRecDepth 100000 in
theorem pj_mk115 : pj_okR pj_prog pj_m115 = true := by decide +kernel
set_option maxRecDepth 100000 in
theorem pj_mk116 : pj_okR pj_prog pj_m116 = true := by decide +kernel
set_option maxRecDepth 100000 in
theorem pj_mk117 : pj_okR pj_prog pj_m117 = true := by decide +kernel
set_option maxRecDepth 100000 in
theorem pj_mk118 : pj_okR pj_prog pj_m118 = true := by decide +kernel
set_option maxRecDepth 100000 in
theorem pj_mk119 : pj_okR pj_prog pj_m119 = true := by decide +kernel
set_option maxRecDepth 100000 in
theorem pj_mk120 : pj_okR pj_prog pj_m120 = true := by decide +kernel
set_option maxRecDepth 100000 in
theorem pj_mk121 : pj_okR pj_prog pj_m121 = true := by decide +kernel
set_option maxRecDepth 100000 in
theorem pj_mk122 : pj_okR pj_prog pj_m122 = true := by decide +kernel
set_option maxRecDepth 100000 in
theorem pj_mk123 : pj_okR pj_prog pj_m123 = true := by decide +kernel
set_option maxRecDepth 100000 in
theorem pj_mk124 : pj_okR pj_prog pj_m124 = true := by decide +kernel
set_option maxRecDepth 100000 in
theorem pj_mk125 : pj_okR pj_prog pj_m125 = true := by decide +kernel
set_option maxRecDepth 100000 in
theorem pj_mk126 : pj_okR pj_prog pj_m126 = true := by decide +kernel
set_option maxRecDepth 100000 in
theorem pj_mk127 : pj_okR pj_prog pj_m127 = true := by decide +kernel
set_option maxRecDepth 100000 in
theorem pj_mk128 : pj_okR pj_prog pj_m128 = true := by decide +kernel
set_option maxRecDepth 100000 in
theorem pj_mk129 : pj_okR pj_prog pj_m129 = true := by decide +kernel
set_option maxRecDepth 100000 in
theorem pj_mk130 : pj_okR pj_prog pj_m130 = true := by decide +kernel
set_option maxRecDepth 100000 in
theorem pj_mk131 : pj_okR pj_prog pj_m131 = true := by decide +kernel
set_option maxRecDepth 100000 in
theorem pj_mk132 : pj_okR pj_prog pj_m132 = true := by decide +kernel
set_option maxRecDepth 100000 in
theorem pj_mk133 : pj_okR pj_prog pj_m133 = true := by decide +kernel
