set_option maxRecDepth 100000 in
theorem pj_ml224 : pj_okm pj_m224 (0, 1) = true := by decide +kernel
set_option maxRecDepth 100000 in
theorem pj_mn224 : plainName pj_m224.1.cls = true := pj_pl12
set_option maxRecDepth 100000 in
theorem pj_mr224 : pj_okRL pj_m224 = true := by decide +kernel
set_option maxRecDepth 100000 in
theorem pj_ml225 : pj_okm pj_m225 (2, 1) = true := by decide +kernel
set_option maxRecDepth 100000 in
theorem pj_mn225 : plainName pj_m225.1.cls = true := pj_pl12
set_option maxRecDepth 100000 in
theorem pj_mr225 : pj_okRL pj_m225 = true := by decide +kernel
set_option maxRecDepth 100000 in
theorem pj_ml226 : pj_okm pj_m226 (2, 1) = true := by decide +kernel
set_option maxRecDepth 100000 in
theorem pj_mn226 : plainName pj_m226.1.cls = true := pj_pl12
set_option maxRecDepth 100000 in
theorem pj_mr226 : pj_okRL pj_m226 = true := by decide +kernel
set_option maxRecDepth 100000 in
theorem pj_ml227 : pj_okm pj_m227 (2, 1) = true := by decide +kernel
set_option maxRecDepth 100000 in
theorem pj_mn227 : plainName pj_m227.1.cls = true := pj_pl12
set_option maxRecDepth 100000 in
theorem pj_mr227 : pj_okRL pj_m227 = true := by decide +kernel
set_option maxRecDepth 100000 in
theorem pj_ml228 : pj_okm pj_m228 (1, 1) = true := by decide +kernel
set_option maxRecDepth 100000 in
theorem pj_mn228 : plainName pj_m228.1.cls = true := pj_pl12
set_option maxRecDepth 100000 in
theorem pj_mr228 : pj_okRL pj_m228 = true := by decide +kernel
set_option maxRecDepth 100000 in
theorem pj_ml229 : pj_okm pj_m229 (0, 1) = true := by decide +kernel
set_option maxRecDepth 100000 in
theorem pj_mn229 : plainName pj_m229.1.cls = true := pj_pl12
set_option maxRecDepth 100000 in
theorem pj_mr229 : pj_okRL pj_m229 = true := by decide +kernel
set_option maxRecDepth 100000 in
theorem pj_ml230 : pj_okm pj_m230 (1, 1) = true := by decide +kernel
set_option maxRecDepth 100000 in
theorem pj_mn230 : plainName pj_m230.1.cls = true := pj_pl12
set_option maxRecDepth 100000 in
theorem pj_mr230 : pj_okRL pj_m230 = true := by decide +kernel
set_option maxRecDepth 100000 in
theorem pj_ml231 : pj_okm pj_m231 (0, 1) = true := by decide +kernel
set_option maxRecDepth 100000 in
theorem pj_mn231 : plainName pj_m231.1.cls = true := pj_pl12
set_option maxRecDepth 100000 in
theorem pj_mr231 : pj_okRL pj_m231 = true := by decide +kernel
set_option maxRecDepth 100000 in
theorem pj_ml232 : pj_okm pj_m232 (2, 1) = true := by decide +kernel
set_option maxRecDepth 100000 in
theorem pj_mn232 : plainName pj_m232.1.cls = true := pj_pl12
set_option maxRecDepth 100000 in
theorem pj_mr232 : pj_okRL pj_m232 = true := by decide +kernel
set_option maxRecDepth 100000 in
theorem pj_ml233 : pj_okm pj_m233 (2, 1) = true := by decide +kernel
set_option maxRecDepth 100000 in
theorem pj_mn233 : plainName pj_m233.1.cls = true := pj_pl12
set_option maxRecDepth 100000 in
theorem pj_mr233 : pj_okRL pj_m233 = true := by decide +kernel
set_option maxRecDepth 100000 in
theorem pj_ml234 : pj_okm pj_m234 (1, 1) = true := by decide +kernel
set_option maxRecDepth 100000 in
theorem pj_mn234 : plainName pj_m234.1.cls = true := pj_pl12
set_option maxRecDepth 100000 in
theorem pj_mr234 : pj_okRL pj_m234 = true := by decide +kernel
set_option maxRecDepth 100000 in
theorem pj_ml235 : pj_okm pj_m235 (2, 1) = true := by decide +kernel
set_option maxRecDepth 100000 in
theorem pj_mn235 : plainName pj_m235.1.cls = true := pj_pl12
set_option maxRecDepth 100000 in
theorem pj_mr235 : pj_okRL pj_m235 = true := by decide +kernel
set_option maxRecDepth 100000 in
theorem pj_ml236 : pj_okm pj_m236 (1, 1) = true := by decide +kernel
set_option maxRecDepth 100000 in
theorem pj_mn236 : plainName pj_m236.1.cls = true := pj_pl12
set_option maxRecDepth 100000 in
theorem pj_mr236 : pj_okRL pj_m236 = true := by decide +kernel
set_option maxRecDepth 100000 in
theorem pj_ml237 : pj_okm pj_m237 (2, 1) = true := by decide +kernel
set_option maxRecDepth 100000 in
theorem pj_mn237 : plainName pj_m237.1.cls = true := pj_pl12
set_option maxRecDepth 100000 in
theorem pj_mr237 : pj_okRL pj_m237 = true := by decide +kernel
set_option maxRecDepth 100000 in
theorem pj_ml238 : pj_okm pj_m238 (4, 1) = true := by decide +kernel
set_option maxRecDepth 100000 in
theorem pj_mn238 : plainName pj_m238.1.cls = true := pj_pl12
set_option maxRecDepth 100000 in
theorem pj_mr238 : pj_okRL pj_m238 = true := by decide +kernel
set_option maxRecDepth 100000 in
theorem pj_ml239 : pj_okm pj_m239 (3, 1) = true := by decide +kernel
set_option maxRecDepth 100000 in
theorem pj_mn239 : plainName pj_m239.1.cls = true := pj_pl12
set_option maxRecDepth 100000 in
theorem pj_mr239 : pj_okRL pj_m239 = true := by decide +kernel
