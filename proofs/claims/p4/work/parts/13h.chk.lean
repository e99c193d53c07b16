set_option maxRecDepth 100000 in
theorem pj_mk190 : pj_okR pj_prog pj_m190 = true := by decide +kernel
set_option maxRecDepth 100000 in
theorem pj_mk191 : pj_okR pj_prog pj_m191 = true := by decide +kernel
set_option maxRecDepth 100000 in
theorem pj_mk192 : pj_okR pj_prog pj_m192 = true := by decide +kernel
set_option maxRecDepth 100000 in
theorem pj_mk193 : pj_okR pj_prog pj_m193 = true := by decide +kernel
set_option maxRecDepth 100000 in
theorem pj_mk194 : pj_okR pj_prog pj_m194 = true := by decide +kernel
set_option maxRecDepth 100000 in
theorem pj_mk195 : pj_okR pj_prog pj_m195 = true := by decide +kernel
set_option maxRecDepth 100000 in
theorem pj_mk196 : pj_okR pj_prog pj_m196 = true := by decide +kernel
set_option maxRecDepth 100000 in
theorem pj_mk197 : pj_okR pj_prog pj_m197 = true := by decide +kernel
set_option maxRecDepth 100000 in
theorem pj_mk198 : pj_okR pj_prog pj_m198 = true := by decide +kernel
set_option maxRecDepth 100000 in
theorem pj_mk199 : pj_okR pj_prog pj_m199 = true := by decide +kernel
set_option maxRecDepth 100000 in
theorem pj_mk200 : pj_okR pj_prog pj_m200 = true := by decide +kernel
set_option maxRecDepth 100000 in
theorem pj_mk201 : pj_okR pj_prog pj_m201 = true := by decide +kernel
set_option maxRecDepth 100000 in
theorem pj_mk202 : pj_okR pj_prog pj_m202 = true := by decide +kernel
set_option maxRecDepth 100000 in
theorem pj_mk203 : pj_okR pj_prog pj_m203 = true := by decide +kernel
