set_option maxRecDepth 100000 in
theorem pj_mk134 : pj_okR pj_prog pj_m134 = true := by decide +kernel
set_option maxRecDepth 100000 in
theorem pj_mk135 : pj_okR pj_prog pj_m135 = true := by decide +kernel
set_option maxRecDepth 100000 in
theorem pj_mk136 : pj_okR pj_prog pj_m136 = true := by decide +kernel
set_option maxRecDepth 100000 in
theorem pj_mk137 : pj_okR pj_prog pj_m137 = true := by decide +kernel
set_option maxRecDepth 100000 in
theorem pj_mk138 : pj_okR pj_prog pj_m138 = true := by decide +kernel
set_option maxRecDepth 100000 in
theorem pj_mk139 : pj_okR pj_prog pj_m139 = true := by decide +kernel
set_option maxRecDepth 100000 in
theorem pj_mk140 : pj_okR pj_prog pj_m140 = true := by decide +kernel
set_option maxRecDepth 100000 in
theorem pj_mk141 : pj_okR pj_prog pj_m141 = true := by decide +kernel
set_option maxRecDepth 100000 in
theorem pj_mk142 : pj_okR pj_prog pj_m142 = true := by decide +kernel
set_option maxRecDepth 100000 in
theorem pj_mk143 : pj_okR pj_prog pj_m143 = true := by decide +kernel
set_option maxRecDepth 100000 in
theorem pj_mk144 : pj_okR pj_prog pj_m144 = true := by decide +kernel
set_option maxRecDepth 100000 in
theorem pj_mk145 : pj_okR pj_prog pj_m145 = true := by decide +kernel
set_option maxRecDepth 100000 in
theorem pj_mk146 : pj_okR pj_prog pj_m146 = true := by decide +kernel
set_option maxRecDepth 100000 in
theorem pj_mk147 : pj_okR pj_prog pj_m147 = true := by decide +kernel
set_option maxRecDepth 100000 in
theorem pj_mk148 : pj_okR pj_prog pj_m148 = true := by decide +kernel
set_option maxRecDepth 100000 in
theorem pj_mk149 : pj_okR pj_prog pj_m149 = true := by decide +kernel
set_option maxRecDepth 100000 in
theorem pj_mk150 : pj_okR pj_prog pj_m150 = true := by decide +kernel
set_option maxRecDepth 100000 in
theorem pj_mk151 : pj_okR pj_prog pj_m151 = true := by decide +kernel
set_option maxRecDepth 100000 in
theorem pj_mk152 : pj_okR pj_prog pj_m152 = true := by decide +kernel
set_option maxRecDepth 100000 in
theorem pj_mk153 : pj_okR pj_prog pj_m153 = true := by decide +kernel
set_option maxRecDepth 100000 in
theorem pj_mk154 : pj_okR pj_prog pj_m154 = true := by decide +kernel
