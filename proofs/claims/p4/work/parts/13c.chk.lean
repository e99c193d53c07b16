set_option maxRecDepth 100000 in
theorem pj_mk49 : pj_okR pj_prog pj_m49 = true := by decide +kernel
set_option maxRecDepth 100000 in
theorem pj_mk50 : pj_okR pj_prog pj_m50 = true := by decide +kernel
set_option maxRecDepth 100000 in
theorem pj_mk51 : pj_okR pj_prog pj_m51 = true := by decide +kernel
set_option maxRecDepth 100000 in
theorem pj_mk52 : pj_okR pj_prog pj_m52 = true := by decide +kernel
set_option maxRecDepth 100000 in
theorem pj_mk53 : pj_okR pj_prog pj_m53 = true := by decide +kernel
set_option maxRecDepth 100000 in
theorem pj_mk54 : pj_okR pj_prog pj_m54 = true := by decide +kernel
set_option maxRecDepth 100000 in
theorem pj_mk55 : pj_okR pj_prog pj_m55 = true := by decide +kernel
set_option maxRecDepth 100000 in
theorem pj_mk56 : pj_okR pj_prog pj_m56 = true := by decide +kernel
set_option maxRecDepth 100000 in
theorem pj_mk57 : pj_okR pj_prog pj_m57 = true := by decide +kernel
set_option maxRecDepth 100000 in
theorem pj_mk58 : pj_okR pj_prog pj_m58 = true := by decide +kernel
set_option maxRecDepth 100000 in
theorem pj_mk59 : pj_okR pj_prog pj_m59 = true := by decide +kernel
set_option maxRecDepth 100000 in
theorem pj_mk60 : pj_okR pj_prog pj_m60 = true := by decide +kernel
set_option maxRecDepth 100000 in
theorem pj_mk61 : pj_okR pj_prog pj_m61 = true := by decide +kernel
set_option maxRecDepth 100000 in
theorem pj_mk62 : pj_okR pj_prog pj_m62 = true := by decide +kernel
set_option maxRecDepth 100000 in
theorem pj_mk63 : pj_okR pj_prog pj_m63 = true := by decide +kernel
set_option maxRecDepth 100000 in
theorem pj_mk64 : pj_okR pj_prog pj_m64 = true := by decide +kernel
set_option maxRecDepth 100000 in
theorem pj_mk65 : pj_okR pj_prog pj_m65 = true := by decide +kernel
set_option maxRecDepth 100000 in
theorem pj_mk66 : pj_okR pj_prog pj_m66 = true := by decide +kernel
set_option maxRecDepth 100000 in
theorem pj_mk67 : pj_okR pj_prog pj_m67 = true := by decide +kernel
set_option maxRecDepth 100000 in
theorem pj_mk68 : pj_okR pj_prog pj_m68 = true := by decide +kernel
set_option maxRecDepth 100000 in
theorem pj_mk69 : pj_okR pj_prog pj_m69 = true := by decide +kernel
set_option maxRecDepth 100000 in
theorem pj_mk70 : pj_okR pj_prog pj_m70 = true := by decide +kernel
set_option maxRecDepth 100000 in
theorem pj_mk71 : pj_okR pj_prog pj_m71 = true := by decide +kernel
set_option maxRecDepth 100000 in
theorem pj_mk72 : pj_okR pj_prog pj_m72 = true := by decide +kernel
set_option maxRecDepth 100000 in
theorem pj_mk73 : pj_okR pj_prog pj_m73 = true := by decide +kernel
set_option maxRecDepth 100000 in
theorem pj_mk74 : pj_okR pj_prog pj_m74 = true := by decide +kernel
set_option maxRecDepth 100000 in
theorem pj_mk75 : pj_okR pj_prog pj_m75 = true := by decide +kernel
set_option maxRecDepth 100000 in
theorem pj_mk76 : pj_okR pj_prog pj_m76 = true := by decide +kernel
set_option maxRecDepth 100000 in
theorem pj_mk77 : pj_okR pj_prog pj_m77 = true := by decide +kernel
set_option maxRecDepth 100000 in
theorem pj_mk78 : pj_okR pj_prog pj_m78 = true := by decide +kernel
set_option maxRecDepth 100000 in
theorem pj_mk79 : pj_okR pj_prog pj_m79 = true := by decide +kernel
set_option maxRecDepth 100000 in
theorem pj_mk80 : pj_okR pj_prog pj_m80 = true := by decide +kernel
set_option maxRecDepth 100000 in
theorem pj_mk81 : pj_okR pj_prog pj_m81 = true := by decide +kernel
set_option maxRecDepth 100000 in
theorem pj_mk82 : pj_okR pj_prog pj_m82 = true := by decide +kernel
