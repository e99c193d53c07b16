set_option maxRecDepth 100000 in
theorem pj_mk204 : pj_okR pj_prog pj_m204 = true := by decide +kernel
set_option maxRecDepth 100000 in
theorem pj_mk205 : pj_okR pj_prog pj_m205 = true := by decide +kernel
set_option maxRecDepth 100000 in
theorem pj_mk206 : pj_okR pj_prog pj_m206 = true := by decide +kernel
set_option maxRecDepth 100000 in
theorem pj_mk207 : pj_okR pj_prog pj_m207 = true := by decide +kernel
set_option maxRecDepth 100000 in
theorem pj_mk208 : pj_okR pj_prog pj_m208 = true := by decide +kernel
set_option maxRecDepth 100000 in
theorem pj_mk209 : pj_okR pj_prog pj_m209 = true := by decide +kernel
set_option maxRecDepth 100000 in
theorem pj_mk210 : pj_okR pj_prog pj_m210 = true := by decide +kernel
set_option maxRecDepth 100000 in
theorem pj_mk211 : pj_okR pj_prog pj_m211 = true := by decide +kernel
set_option maxRecDepth 100000 in
theorem pj_mk212 : pj_okR pj_prog pj_m212 = true := by decide +kernel
set_option maxRecDepth 100000 in
theorem pj_mk213 : pj_okR pj_prog pj_m213 = true := by decide +kernel
set_option maxRecDepth 100000 in
theorem pj_mk214 : pj_okR pj_prog pj_m214 = true := by decide +kernel
set_option maxRecDepth 100000 in
theorem pj_mk215 : pj_okR pj_prog pj_m215 = true := by decide +kernel
set_option maxRecDepth 100000 in
theorem pj_mk216 : pj_okR pj_prog pj_m216 = true := by decide +kernel
set_option maxRecDepth 100000 in
theorem pj_mk217 : pj_okR pj_prog pj_m217 = true := by decide +kernel
set_option maxRecDepth 100000 in
theorem pj_mk218 : pj_okR pj_prog pj_m218 = true := by decide +kernel
set_option maxRecDepth 100000 in
theorem pj_mk219 : pj_okR pj_prog pj_m219 = true := by decide +kernel
set_option maxRecDepth 100000 in
theorem pj_mk220 : pj_okR pj_prog pj_m220 = true := by decide +kernel
set_option maxRecDepth 100000 in
theorem pj_mk221 : pj_okR pj_prog pj_m221 = true := by decide +kernel
set_option maxRecDepth 100000 in
theorem pj_mk222 : pj_okR pj_prog pj_m222 = true := by decide +kernel
set_option maxRecDepth 100000 in
theorem pj_mk223 : pj_okR pj_prog pj_m223 = true := by decide +kernel
